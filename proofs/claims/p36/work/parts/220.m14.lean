theorem wq_X4_goOn_L99b {post : Pg → Prop} {e198 : Pg → Int32 → Prop} {R : Int} (ke198 : ∀ (t0 : Pg) (z1 : Int32), pg (R) t0 → 0 ≤ (z1).toInt ∧ (z1).toInt ≤ 3 → e198 t0 z1) : ∀ (n : Nat) (t0 : Pg) (z1 : Int32), pg (R) t0 → 0 ≤ (z1).toInt ∧ (z1).toInt ≤ 3 → 3 - (z1).toInt < (n : Int) → wp_X4_goOn_L99b post e198 n t0 z1 := by
  intro n
  induction n with
  | zero =>
    intro t0 z1 i2662 i2663 i2664
    have := i2662.1
    exfalso
    omega
  | succ n ih =>
    intro t0 z1 i2662 i2663 i2664
    unfold wp_X4_goOn_L99b
    have := i2662.1
    refine ⟨fun c2665 => ?_, fun c2666 => ?_⟩
    · replace c2665 := q_le c2665
      rw [li_3] at c2665
      have p2667 : 0 ≤ (z1).toInt ∧ (z1).toInt ≤ 3 := by omega
      exact ke198 _ _ i2662 p2667
    · replace c2666 := q_nle c2666
      rw [li_3] at c2666
      refine ⟨fun c2668 => ?_, fun c2669 => ?_⟩
      · replace c2668 := q_le c2668
        rw [li_0] at c2668
        have p2670 : 0 ≤ (z1).toInt ∧ (z1).toInt ≤ 3 := by omega
        exact ke198 _ _ i2662 p2670
      · replace c2669 := q_nle c2669
        rw [li_0] at c2669
        have e2671 := tq_subr li_1 (t0.1 0)
        try rw [Int.emod_eq_of_lt (show 0 ≤ (t0.1 0).toInt - 1 + 2147483648 by omega) (show (t0.1 0).toInt - 1 + 2147483648 < 4294967296 by omega)] at e2671
        have v2672 : vp_in ((t0.1 0) - 1) 3 := vi (by omega) (by omega)
        refine ⟨v2672, ?_⟩
        refine wq_X4_endOf i2662 (fun r_25 => ?_)
        refine ⟨fun c2673 => ?_, fun c2674 => ?_⟩
        · replace c2673 := q_neq c2673
          have p2675 : 0 ≤ (z1).toInt ∧ (z1).toInt ≤ 3 := by omega
          exact ke198 _ _ i2662 p2675
        · replace c2674 := q_eq c2674
          refine ⟨v2672, ?_⟩
          refine ⟨fun c2676 => ?_, fun c2677 => ?_⟩
          · replace c2676 := q_le c2676
            rw [li_0] at c2676
            have p2678 : 0 ≤ ((t0.1 0) - 1).toInt ∧ ((t0.1 0) - 1).toInt ≤ 3 ∧ 0 ≤ (t0.1 1).toInt ∧ (t0.1 1).toInt ≤ 80 := by omega
            have p2679 : ar 80 (0) (99) (t0.2 1) := i2662.2.1
            have B2680 : pg (R) ((va_up t0.1 0 ((t0.1 0) - 1)), t0.2) := ⟨p2678, p2679, i2662.2.2⟩
            have e2681 := tq_addr li_1 z1
            try rw [Int.emod_eq_of_lt (show 0 ≤ (z1).toInt + 1 + 2147483648 by omega) (show (z1).toInt + 1 + 2147483648 < 4294967296 by omega)] at e2681
            have p2682 : 0 ≤ (z1 + 1).toInt ∧ (z1 + 1).toInt ≤ 3 := by omega
            have p2683 : 3 - (z1 + 1).toInt < ((n : Nat) : Int) := by (omega)
            exact ih _ _ B2680 p2682 p2683
          · replace c2677 := q_nle c2677
            rw [li_0] at c2677
            refine ⟨v2672, ?_⟩
            refine ⟨v2672, ?_⟩
            refine ⟨v2672, ?_⟩
            have p2684 : 0 ≤ (t0.1 0).toInt ∧ (t0.1 0).toInt ≤ 3 ∧ 0 ≤ (t0.1 1).toInt ∧ (t0.1 1).toInt ≤ 80 := by omega
            have p2685 : ar 80 (0) (99) (t0.2 1) := i2662.2.1
            have B2686 : pg (R) ((va_up t0.1 2 ((t0.2 5 (Int32.toNatClampNeg ((t0.1 0) - 1))) + 1)), (va_up t0.2 6 (upd (t0.2 6) (Int32.toNatClampNeg ((t0.1 0) - 1)) ((t0.2 6 (Int32.toNatClampNeg ((t0.1 0) - 1))) - 1)))) := ⟨p2684, p2685, i2662.2.2⟩
            have e2687 := tq_addr li_1 z1
            try rw [Int.emod_eq_of_lt (show 0 ≤ (z1).toInt + 1 + 2147483648 by omega) (show (z1).toInt + 1 + 2147483648 < 4294967296 by omega)] at e2687
            have p2688 : 0 ≤ (z1 + 1).toInt ∧ (z1 + 1).toInt ≤ 3 := by omega
            have p2689 : 3 - (z1 + 1).toInt < ((n : Nat) : Int) := by (omega)
            exact ih _ _ B2686 p2688 p2689
theorem wq_X4_goOn_L99bb {post : Pg → Prop} {e198 : Pg → Int32 → Prop} {R : Int} (ke198 : ∀ (t0 : Pg) (z1 : Int32), pg (R) t0 → 0 ≤ (z1).toInt ∧ (z1).toInt ≤ 3 → e198 t0 z1) : ∀ (n : Nat) (t0 : Pg) (z1 : Int32), pg (R) t0 → 0 ≤ (z1).toInt ∧ (z1).toInt ≤ 3 → 3 - (z1).toInt < (n : Int) → wp_X4_goOn_L99bb post e198 n t0 z1 := by
  intro n
  induction n with
  | zero =>
    intro t0 z1 i2690 i2691 i2692
    have := i2690.1
    exfalso
    omega
  | succ n ih =>
    intro t0 z1 i2690 i2691 i2692
    unfold wp_X4_goOn_L99bb
    have := i2690.1
    refine ⟨fun c2693 => ?_, fun c2694 => ?_⟩
    · replace c2693 := q_le c2693
      rw [li_3] at c2693
      have p2695 : 0 ≤ (z1).toInt ∧ (z1).toInt ≤ 3 := by omega
      exact ke198 _ _ i2690 p2695
    · replace c2694 := q_nle c2694
      rw [li_3] at c2694
      refine ⟨fun c2696 => ?_, fun c2697 => ?_⟩
      · replace c2696 := q_le c2696
        rw [li_0] at c2696
        have p2698 : 0 ≤ (z1).toInt ∧ (z1).toInt ≤ 3 := by omega
        exact ke198 _ _ i2690 p2698
      · replace c2697 := q_nle c2697
        rw [li_0] at c2697
        have e2699 := tq_subr li_1 (t0.1 0)
        try rw [Int.emod_eq_of_lt (show 0 ≤ (t0.1 0).toInt - 1 + 2147483648 by omega) (show (t0.1 0).toInt - 1 + 2147483648 < 4294967296 by omega)] at e2699
        have v2700 : vp_in ((t0.1 0) - 1) 3 := vi (by omega) (by omega)
        refine ⟨v2700, ?_⟩
        refine wq_X4_endOf i2690 (fun r_39 => ?_)
        refine ⟨fun c2701 => ?_, fun c2702 => ?_⟩
        · replace c2701 := q_neq c2701
          have p2703 : 0 ≤ (z1).toInt ∧ (z1).toInt ≤ 3 := by omega
          exact ke198 _ _ i2690 p2703
        · replace c2702 := q_eq c2702
          refine ⟨v2700, ?_⟩
          refine ⟨fun c2704 => ?_, fun c2705 => ?_⟩
          · replace c2704 := q_le c2704
            rw [li_0] at c2704
            have p2706 : 0 ≤ ((t0.1 0) - 1).toInt ∧ ((t0.1 0) - 1).toInt ≤ 3 ∧ 0 ≤ (t0.1 1).toInt ∧ (t0.1 1).toInt ≤ 80 := by omega
            have p2707 : ar 80 (0) (99) (t0.2 1) := i2690.2.1
            have B2708 : pg (R) ((va_up t0.1 0 ((t0.1 0) - 1)), t0.2) := ⟨p2706, p2707, i2690.2.2⟩
            have e2709 := tq_addr li_1 z1
            try rw [Int.emod_eq_of_lt (show 0 ≤ (z1).toInt + 1 + 2147483648 by omega) (show (z1).toInt + 1 + 2147483648 < 4294967296 by omega)] at e2709
            have p2710 : 0 ≤ (z1 + 1).toInt ∧ (z1 + 1).toInt ≤ 3 := by omega
            have p2711 : 3 - (z1 + 1).toInt < ((n : Nat) : Int) := by (omega)
            exact ih _ _ B2708 p2710 p2711
          · replace c2705 := q_nle c2705
            rw [li_0] at c2705
            refine ⟨v2700, ?_⟩
            refine ⟨v2700, ?_⟩
            refine ⟨v2700, ?_⟩
            have p2712 : 0 ≤ (t0.1 0).toInt ∧ (t0.1 0).toInt ≤ 3 ∧ 0 ≤ (t0.1 1).toInt ∧ (t0.1 1).toInt ≤ 80 := by omega
            have p2713 : ar 80 (0) (99) (t0.2 1) := i2690.2.1
            have B2714 : pg (R) ((va_up t0.1 2 ((t0.2 5 (Int32.toNatClampNeg ((t0.1 0) - 1))) + 1)), (va_up t0.2 6 (upd (t0.2 6) (Int32.toNatClampNeg ((t0.1 0) - 1)) ((t0.2 6 (Int32.toNatClampNeg ((t0.1 0) - 1))) - 1)))) := ⟨p2712, p2713, i2690.2.2⟩
            have e2715 := tq_addr li_1 z1
            try rw [Int.emod_eq_of_lt (show 0 ≤ (z1).toInt + 1 + 2147483648 by omega) (show (z1).toInt + 1 + 2147483648 < 4294967296 by omega)] at e2715
            have p2716 : 0 ≤ (z1 + 1).toInt ∧ (z1 + 1).toInt ≤ 3 := by omega
            have p2717 : 3 - (z1 + 1).toInt < ((n : Nat) : Int) := by (omega)
            exact ih _ _ B2714 p2716 p2717
theorem wq_X4_goOn {post : Pg → Prop} {s0 : Pg} {R : Int} (h2718 : pg (R) s0) (k : ∀ (u : Pg), pg (R) u → post u) : wp_X4_goOn post s0 := by
  unfold wp_X4_goOn
  have := h2718.1
  refine wq_X4_kindOf h2718 (fun r_1 q2719 => ?_)
  refine ⟨fun c2720 => ?_, fun c2721 => ?_⟩
  · replace c2720 := q_neq c2720
    rw [li_12] at c2720
    refine wq_X4_endOf h2718 (fun r_4 => ?_)
    have p2722 : 0 ≤ (s0.1 0).toInt ∧ (s0.1 0).toInt ≤ 3 ∧ 0 ≤ (s0.1 1).toInt ∧ (s0.1 1).toInt ≤ 80 := by omega
    have p2723 : ar 80 (0) (99) (s0.2 1) := h2718.2.1
    have B2724 : pg (R) ((va_up s0.1 2 r_4), s0.2) := ⟨p2722, p2723, h2718.2.2⟩
    have p2725 : 0 ≤ (0 : Int32).toInt ∧ (0 : Int32).toInt ≤ 3 := by (have := li_0; omega)
    obtain ⟨f2726, g2727⟩ := fu_e 10
    have p2728 : 3 - (0 : Int32).toInt < (f2726 : Int) := by (have := li_0; omega)
    refine ⟨f2726, wq_X4_goOn_L99 (fun t0 z1 q2729 q2730 => ?_) f2726 _ _ B2724 p2725 p2728⟩
    have := q2729.1
    exact k _ q2729
  · replace c2721 := q_eq c2721
    rw [li_12] at c2721
    refine wq_X4_oneOf h2718 (fun r_17 q2731 q2732 => ?_)
    refine ⟨fun c2733 => ?_, fun c2734 => ?_⟩
    · replace c2733 := q_le c2733
      rw [li_0] at c2733
      refine wq_X4_endOf h2718 (fun r_20 => ?_)
      have p2735 : 0 ≤ (s0.1 0).toInt ∧ (s0.1 0).toInt ≤ 3 ∧ 0 ≤ (s0.1 1).toInt ∧ (s0.1 1).toInt ≤ 80 := by omega
      have p2736 : ar 80 (0) (99) (s0.2 1) := h2718.2.1
      have B2737 : pg (R) ((va_up s0.1 2 r_20), s0.2) := ⟨p2735, p2736, h2718.2.2⟩
      have p2738 : 0 ≤ (0 : Int32).toInt ∧ (0 : Int32).toInt ≤ 3 := by (have := li_0; omega)
      obtain ⟨f2739, g2740⟩ := fu_e 10
      have p2741 : 3 - (0 : Int32).toInt < (f2739 : Int) := by (have := li_0; omega)
      refine ⟨f2739, wq_X4_goOn_L99b (fun t0 z1 q2742 q2743 => ?_) f2739 _ _ B2737 p2738 p2741⟩
      have := q2742.1
      exact k _ q2742
    · replace c2734 := q_nle c2734
      rw [li_0] at c2734
      refine ⟨fun c2744 => ?_, fun c2745 => ?_⟩
      · replace c2744 := q_le c2744
        rw [li_3] at c2744
        refine wq_X4_endOf h2718 (fun r_34 => ?_)
        have p2746 : 0 ≤ (s0.1 0).toInt ∧ (s0.1 0).toInt ≤ 3 ∧ 0 ≤ (s0.1 1).toInt ∧ (s0.1 1).toInt ≤ 80 := by omega
        have p2747 : ar 80 (0) (99) (s0.2 1) := h2718.2.1
        have B2748 : pg (R) ((va_up s0.1 2 r_34), s0.2) := ⟨p2746, p2747, h2718.2.2⟩
        have p2749 : 0 ≤ (0 : Int32).toInt ∧ (0 : Int32).toInt ≤ 3 := by (have := li_0; omega)
        obtain ⟨f2750, g2751⟩ := fu_e 10
        have p2752 : 3 - (0 : Int32).toInt < (f2750 : Int) := by (have := li_0; omega)
        refine ⟨f2750, wq_X4_goOn_L99bb (fun t0 z1 q2753 q2754 => ?_) f2750 _ _ B2748 p2749 p2752⟩
        have := q2753.1
        exact k _ q2753
      · replace c2745 := q_nle c2745
        rw [li_3] at c2745
        have v2755 : vp_in (s0.1 0) 3 := vi (by omega) (by omega)
        refine ⟨v2755, ?_⟩
        have p2756 : 0 ≤ (s0.1 0).toInt ∧ (s0.1 0).toInt ≤ 3 ∧ 0 ≤ (s0.1 1).toInt ∧ (s0.1 1).toInt ≤ 80 := by omega
        have p2757 : ar 80 (0) (99) (s0.2 1) := h2718.2.1
        have B2758 : pg (R) (s0.1, (va_up s0.2 5 (upd (s0.2 5) (Int32.toNatClampNeg (s0.1 0)) (s0.1 2)))) := ⟨p2756, p2757, h2718.2.2⟩
        refine wq_X4_oneOf B2758 (fun r_48 q2759 q2760 => ?_)
        replace q2759 : 0 ≤ (r_48).toInt ∧ (r_48).toInt ≤ 99 := q2759
        replace q2760 : (r_48).toInt < R ∨ (s0.1 2).toInt < 0 ∨ (s0.1 1).toInt ≤ (s0.1 2).toInt ∨ ((s0.2 0 (Int32.toNatClampNeg (s0.1 2))).toInt ≠ 6 ∧ (s0.2 0 (Int32.toNatClampNeg (s0.1 2))).toInt ≠ 9) := q2760
        refine ⟨v2755, ?_⟩
        have e2761 := tq_addr li_1 (s0.1 0)
        try rw [Int.emod_eq_of_lt (show 0 ≤ (s0.1 0).toInt + 1 + 2147483648 by omega) (show (s0.1 0).toInt + 1 + 2147483648 < 4294967296 by omega)] at e2761
        have p2762 : 0 ≤ ((s0.1 0) + 1).toInt ∧ ((s0.1 0) + 1).toInt ≤ 3 ∧ 0 ≤ (s0.1 1).toInt ∧ (s0.1 1).toInt ≤ 80 := by omega
        have p2763 : ar 80 (0) (99) (s0.2 1) := h2718.2.1
        have B2764 : pg (R) ((va_up (va_up s0.1 0 ((s0.1 0) + 1)) 2 ((s0.1 2) + 1)), (va_up (va_up s0.2 5 (upd (s0.2 5) (Int32.toNatClampNeg (s0.1 0)) (s0.1 2))) 6 (upd (s0.2 6) (Int32.toNatClampNeg (s0.1 0)) (r_48 - 1)))) := ⟨p2762, p2763, h2718.2.2⟩
        exact k _ B2764
theorem wq_X4_openTimes {post : Pg → Tp → Prop} {s0 : Pg} {s1 : Tp} {R N : Int} (h1 : pg R s0) (h2 : tj N s1) (k : ∀ (ua : Pg) (ub : Tp), pg R ua → tj N ub → post ua ub) : wp_X4_openTimes post s0 s1 := by
  unfold wp_X4_openTimes
  have e1 : (1 : Int32).toInt = 1 := rfl
  have e3 : (3 : Int32).toInt = 3 := rfl
  have e40 : (40 : Int32).toInt = 40 := rfl
  have d := h1.1
  have e2 := tq_add (s0.1 0) 1
  have good : (s0.1 0).toInt < 3 → pg R ((va_up s0.1 0 ((s0.1 0) + 1)), (va_up s0.2 5 (upd (s0.2 5) (Int32.toNatClampNeg (s0.1 0)) (s0.1 1)))) := fun g => ⟨by
    show 0 ≤ (s0.1 0 + 1).toInt ∧ (s0.1 0 + 1).toInt ≤ 3 ∧ 0 ≤ (s0.1 1).toInt ∧ (s0.1 1).toInt ≤ 80
    omega, h1.2.1, h1.2.2⟩
  refine wq_X5_peek h2 (fun r u hu a1 a2 a3 a4 a5 a6 a7 a8 a9 => ?_)
  have u0 := hu.1
  have u1 := hu.2.1
  have u2 := hu.2.2
  refine ⟨fun c => ?_, fun c => ⟨fun g => ?_, fun g => ?_⟩⟩
  · refine wq_X5_takeByte hu (by omega) (fun v hv b1 b2 b3 => ?_)
    have bad : ¬ (v.1 5).toInt = 0 := b3 a8 (fun e => c (a7.trans e))
    refine wq_X5_isSound (fun q hq => ⟨fun _ => k _ _ h1 hv, fun z => ?_⟩)
    have := q_neq z
    have e0 : (0 : Int32).toInt = 0 := rfl
    exfalso
    omega
  · have g2 := q_lt g
    refine wq_X5_takeByte hu (by omega) (fun v hv b1 b2 b3 => ?_)
    exact wq_X5_isSound (fun q hq => ⟨fun _ => k _ _ h1 hv, fun z => ⟨vi (by omega) (by omega), k _ _ (good (by omega)) hv⟩⟩)
  · refine wq_X5_blame (N := N) ⟨u0, by omega, u2⟩ (by omega) (fun v hv b1 b2 b3 b4 b5 => ?_)
    have v0 := hv.1
    have v1 := hv.2.1
    refine wq_X5_takeByte (N := N) ⟨v0, by omega, u2⟩ (by omega) (fun w hw f1 f2 f3 => ?_)
    refine wq_X5_isSound (fun q hq => ⟨fun _ => k _ _ h1 hw, fun z => ?_⟩)
    have := q_neq z
    have e0 : (0 : Int32).toInt = 0 := rfl
    exfalso
    omega
theorem wq_X4_addStep {post : Pg → Prop} {s0 : Pg} {x1 x2 x3 x4 : Int32} {R : Int} (h1 : pg R s0) (h2 : 0 ≤ x2.toInt ∧ x2.toInt ≤ 99) (h3 : (x1.toInt ≠ 6 ∧ x1.toInt ≠ 9) ∨ x2.toInt < R) (k : ∀ u : Pg, pg R u → post u) : wp_X4_addStep post s0 x1 x2 x3 x4 := by
  unfold wp_X4_addStep
  have d := h1.1
  have e1 : (1 : Int32).toInt = 1 := rfl
  have e80 : (80 : Int32).toInt = 80 := rfl
  have e2 := tq_add (s0.1 1) 1
  refine ⟨fun _ => k _ h1, fun c => ?_⟩
  have c2 := q_nle c
  have v : vp_in (s0.1 1) 80 := vi (by omega) (by omega)
  refine ⟨v, v, v, v, v, k _ ⟨?_, ar_upd h1.2.1 h2.1 h2.2, ?_⟩⟩
  · show 0 ≤ (s0.1 0).toInt ∧ (s0.1 0).toInt ≤ 3 ∧ 0 ≤ (s0.1 1 + 1).toInt ∧ (s0.1 1 + 1).toInt ≤ 80
    omega
  · intro j hj hk
    have hj2 : (j : Int) < (s0.1 1 + 1).toInt := hj
    have hk2 : ((if j = Int32.toNatClampNeg (s0.1 1) then x1 else s0.2 0 j)).toInt = 6 ∨ ((if j = Int32.toNatClampNeg (s0.1 1) then x1 else s0.2 0 j)).toInt = 9 := hk
    show ((if j = Int32.toNatClampNeg (s0.1 1) then x2 else s0.2 1 j)).toInt < R
    have ti := tn_i (s0.1 1)
    by_cases e : j = Int32.toNatClampNeg (s0.1 1)
    · rw [if_pos e] at hk2 ⊢
      omega
    · rw [if_neg e] at hk2 ⊢
      exact h1.2.2 j (by omega) hk2
theorem wq_X4_readStep {post : Pg → Tp → Prop} {s0 : Pg} {s1 : Tp} {s2 : Bd} {x1 : Int32} {R N W : Int} (h2765 : pg (R) s0) (h2766 : tj (N) s1) (h2767 : bi (R) (W) s2) (k : ∀ (ua : Pg) (ub : Tp), pg (R) ua → tk (N) ub → post ua ub) : wp_X4_readStep post s0 s1 s2 x1 := by
  unfold wp_X4_readStep
  have := h2765.1
  have := h2766.1
  have := h2766.2.1
  have := h2766.2.2
  have := h2767.1
  have := h2767.2.1
  have := h2767.2.2.1
  have := h2767.2.2.2.1
  have := h2767.2.2.2.2.2.2.2.2.2
  refine ⟨fun c2768 => ?_, fun c2769 => ?_⟩
  · replace c2768 := q_eq c2768
    rw [li_6] at c2768
    have p2770 : (s1.1 0).toInt = N := by omega
    have p2771 : 0 ≤ (s1.1 1).toInt ∧ (s1.1 1).toInt ≤ N ∧ 0 ≤ (s1.1 2).toInt ∧ (s1.1 2).toInt ≤ (s1.1 1).toInt ∧ 0 ≤ (s1.1 5).toInt ∧ (s1.1 5).toInt ≤ 5000 := by omega
    have p2772 : 0 ≤ N ∧ N ≤ 400 := by omega
    have B2773 : tj (N) ((va_up s1.1 4 0), s1.2) := ⟨p2770, p2771, p2772⟩
    refine wq_X5_takeNumber B2773 (fun r_2 u_3 q2774 q2775 q2776 => ?_)
    have := q2774.1
    have := q2774.2.1
    replace q2775 : (u_3.1 5).toInt ≠ 0 ∨ ((s1.1 5).toInt = 0 ∧ ((0 : Int32)).toInt ≤ (r_2).toInt ∧ (r_2).toInt ≤ ((s2.1 0) - 1).toInt) := q2775
    try simp only [li_0] at q2775
    have e2777 := tq_subr li_1 (s2.1 0)
    try rw [Int.emod_eq_of_lt (show 0 ≤ (s2.1 0).toInt - 1 + 2147483648 by omega) (show (s2.1 0).toInt - 1 + 2147483648 < 4294967296 by omega)] at e2777
    replace q2776 : (r_2).toInt = ((0 : Int32)).toInt ∨ (((0 : Int32)).toInt ≤ (r_2).toInt ∧ (r_2).toInt ≤ ((s2.1 0) - 1).toInt) := q2776
    try simp only [li_0] at q2776
    refine wq_X5_takeQuoted q2774 (fun u_5 q2778 q2779 q2780 => ?_)
    have := q2778.1
    have := q2778.2.1
    refine wq_X5_isSound (fun r_6 q2781 => ?_)
    refine ⟨fun c2782 => ?_, fun c2783 => ?_⟩
    · replace c2782 := q_eq c2782
      rw [li_0] at c2782
      exact k _ _ h2765 q2778
    · replace c2783 := q_neq c2783
      rw [li_0] at c2783
      have p2784 : 0 ≤ (r_2).toInt ∧ (r_2).toInt ≤ 99 := by omega
      have p2785 : ((x1).toInt ≠ 6 ∧ (x1).toInt ≠ 9) ∨ (r_2).toInt < R := by omega
      refine wq_X4_addStep h2765 p2784 p2785 (fun u_10 q2786 => ?_)
      have := q2786.1
      exact k _ _ q2786 q2778
  · replace c2769 := q_neq c2769
    rw [li_6] at c2769
    refine ⟨fun c2787 => ?_, fun c2788 => ?_⟩
    · replace c2787 := q_eq c2787
      rw [li_7] at c2787
      refine wq_X0_cells h2767 (fun r_12 q2789 => ?_)
      have p2790 : (s1.1 0).toInt = N := by omega
      have p2791 : 0 ≤ (s1.1 1).toInt ∧ (s1.1 1).toInt ≤ N ∧ 0 ≤ (s1.1 2).toInt ∧ (s1.1 2).toInt ≤ (s1.1 1).toInt ∧ 0 ≤ (s1.1 5).toInt ∧ (s1.1 5).toInt ≤ 5000 := by omega
      have p2792 : 0 ≤ N ∧ N ≤ 400 := by omega
      have B2793 : tj (N) ((va_up s1.1 4 0), s1.2) := ⟨p2790, p2791, p2792⟩
      refine wq_X5_takeNumber B2793 (fun r_14 u_15 q2794 q2795 q2796 => ?_)
      have := q2794.1
      have := q2794.2.1
      replace q2795 : (u_15.1 5).toInt ≠ 0 ∨ ((s1.1 5).toInt = 0 ∧ ((0 : Int32)).toInt ≤ (r_14).toInt ∧ (r_14).toInt ≤ (r_12 - 1).toInt) := q2795
      try simp only [li_0] at q2795
      have e2797 := tq_subr li_1 r_12
      try rw [Int.emod_eq_of_lt (show 0 ≤ (r_12).toInt - 1 + 2147483648 by omega) (show (r_12).toInt - 1 + 2147483648 < 4294967296 by omega)] at e2797
      replace q2796 : (r_14).toInt = ((0 : Int32)).toInt ∨ (((0 : Int32)).toInt ≤ (r_14).toInt ∧ (r_14).toInt ≤ (r_12 - 1).toInt) := q2796
      try simp only [li_0] at q2796
      refine wq_X5_takeNumber q2794 (fun r_16 u_17 q2798 q2799 q2800 => ?_)
      have := q2798.1
      have := q2798.2.1
      try simp only [li_0, li_9] at q2799
      try simp only [li_0, li_9] at q2800
      refine wq_X5_isSound (fun r_18 q2801 => ?_)
      refine ⟨fun c2802 => ?_, fun c2803 => ?_⟩
      · replace c2802 := q_eq c2802
        rw [li_0] at c2802
        have p2804 : (u_17.1 0).toInt = N := by omega
        have p2805 : 0 ≤ (u_17.1 1).toInt ∧ (u_17.1 1).toInt ≤ N + 1 ∧ 0 ≤ (u_17.1 2).toInt ∧ (u_17.1 2).toInt ≤ (u_17.1 1).toInt ∧ ((u_17.1 5).toInt ≠ 0 ∨ (u_17.1 1).toInt ≤ N) ∧ 0 ≤ (u_17.1 5).toInt ∧ (u_17.1 5).toInt ≤ 5000 := by omega
        have p2806 : 0 ≤ N ∧ N ≤ 400 := by omega
        have B2807 : tk (N) u_17 := ⟨p2804, p2805, p2806⟩
        exact k _ _ h2765 B2807
      · replace c2803 := q_neq c2803
        rw [li_0] at c2803
        have p2808 : 0 ≤ (r_14).toInt ∧ (r_14).toInt ≤ 99 := by omega
        have p2809 : ((x1).toInt ≠ 6 ∧ (x1).toInt ≠ 9) ∨ (r_14).toInt < R := by omega
        refine wq_X4_addStep h2765 p2808 p2809 (fun u_22 q2810 => ?_)
        have := q2810.1
        have p2811 : (u_17.1 0).toInt = N := by omega
        have p2812 : 0 ≤ (u_17.1 1).toInt ∧ (u_17.1 1).toInt ≤ N + 1 ∧ 0 ≤ (u_17.1 2).toInt ∧ (u_17.1 2).toInt ≤ (u_17.1 1).toInt ∧ ((u_17.1 5).toInt ≠ 0 ∨ (u_17.1 1).toInt ≤ N) ∧ 0 ≤ (u_17.1 5).toInt ∧ (u_17.1 5).toInt ≤ 5000 := by omega
        have p2813 : 0 ≤ N ∧ N ≤ 400 := by omega
        have B2814 : tk (N) u_17 := ⟨p2811, p2812, p2813⟩
        exact k _ _ q2810 B2814
    · replace c2788 := q_neq c2788
      rw [li_7] at c2788
      refine ⟨fun c2815 => ?_, fun c2816 => ?_⟩
      · replace c2815 := q_eq c2815
        rw [li_8] at c2815
        have p2817 : (s1.1 0).toInt = N := by omega
        have p2818 : 0 ≤ (s1.1 1).toInt ∧ (s1.1 1).toInt ≤ N ∧ 0 ≤ (s1.1 2).toInt ∧ (s1.1 2).toInt ≤ (s1.1 1).toInt ∧ 0 ≤ (s1.1 5).toInt ∧ (s1.1 5).toInt ≤ 5000 := by omega
        have p2819 : 0 ≤ N ∧ N ≤ 400 := by omega
        have B2820 : tj (N) ((va_up s1.1 4 0), s1.2) := ⟨p2817, p2818, p2819⟩
        refine wq_X5_takeQuoted B2820 (fun u_25 q2821 q2822 q2823 => ?_)
        have := q2821.1
        have := q2821.2.1
        replace q2822 : (u_25.1 5).toInt ≠ 0 ∨ (s1.1 5).toInt = 0 := q2822
        replace q2823 : 0 ≤ (u_25.1 4).toInt ∧ (u_25.1 4).toInt ≤ 400 := q2823
        refine wq_X5_isSound (fun r_26 q2824 => ?_)
        refine ⟨fun c2825 => ?_, fun c2826 => ?_⟩
        · replace c2825 := q_eq c2825
          rw [li_0] at c2825
          exact k _ _ h2765 q2821
        · replace c2826 := q_neq c2826
          rw [li_0] at c2826
          have p2827 : 0 ≤ ((0 : Int32)).toInt ∧ ((0 : Int32)).toInt ≤ 99 := by (have := li_0; omega)
          have p2828 : ((x1).toInt ≠ 6 ∧ (x1).toInt ≠ 9) ∨ ((0 : Int32)).toInt < R := by (have := li_0; omega)
          refine wq_X4_addStep h2765 p2827 p2828 (fun u_30 q2829 => ?_)
          have := q2829.1
          exact k _ _ q2829 q2821
      · replace c2816 := q_neq c2816
        rw [li_8] at c2816
        refine ⟨fun c2830 => ?_, fun c2831 => ?_⟩
        · replace c2830 := q_eq c2830
          rw [li_9] at c2830
          have p2832 : (s1.1 0).toInt = N := by omega
          have p2833 : 0 ≤ (s1.1 1).toInt ∧ (s1.1 1).toInt ≤ N ∧ 0 ≤ (s1.1 2).toInt ∧ (s1.1 2).toInt ≤ (s1.1 1).toInt ∧ 0 ≤ (s1.1 5).toInt ∧ (s1.1 5).toInt ≤ 5000 := by omega
          have p2834 : 0 ≤ N ∧ N ≤ 400 := by omega
          have B2835 : tj (N) ((va_up s1.1 4 0), s1.2) := ⟨p2832, p2833, p2834⟩
          refine wq_X5_takeNumber B2835 (fun r_32 u_33 q2836 q2837 q2838 => ?_)
          have := q2836.1
          have := q2836.2.1
          replace q2837 : (u_33.1 5).toInt ≠ 0 ∨ ((s1.1 5).toInt = 0 ∧ ((0 : Int32)).toInt ≤ (r_32).toInt ∧ (r_32).toInt ≤ ((s2.1 0) - 1).toInt) := q2837
          try simp only [li_0] at q2837
          have e2839 := tq_subr li_1 (s2.1 0)
          try rw [Int.emod_eq_of_lt (show 0 ≤ (s2.1 0).toInt - 1 + 2147483648 by omega) (show (s2.1 0).toInt - 1 + 2147483648 < 4294967296 by omega)] at e2839
          replace q2838 : (r_32).toInt = ((0 : Int32)).toInt ∨ (((0 : Int32)).toInt ≤ (r_32).toInt ∧ (r_32).toInt ≤ ((s2.1 0) - 1).toInt) := q2838
          try simp only [li_0] at q2838
          refine wq_X5_isSound (fun r_34 q2840 => ?_)
          refine ⟨fun c2841 => ?_, fun c2842 => ?_⟩
          · replace c2841 := q_eq c2841
            rw [li_0] at c2841
            have p2843 : (u_33.1 0).toInt = N := by omega
            have p2844 : 0 ≤ (u_33.1 1).toInt ∧ (u_33.1 1).toInt ≤ N + 1 ∧ 0 ≤ (u_33.1 2).toInt ∧ (u_33.1 2).toInt ≤ (u_33.1 1).toInt ∧ ((u_33.1 5).toInt ≠ 0 ∨ (u_33.1 1).toInt ≤ N) ∧ 0 ≤ (u_33.1 5).toInt ∧ (u_33.1 5).toInt ≤ 5000 := by omega
            have p2845 : 0 ≤ N ∧ N ≤ 400 := by omega
            have B2846 : tk (N) u_33 := ⟨p2843, p2844, p2845⟩
            exact k _ _ h2765 B2846
          · replace c2842 := q_neq c2842
            rw [li_0] at c2842
            have p2847 : 0 ≤ (r_32).toInt ∧ (r_32).toInt ≤ 99 := by omega
            have p2848 : ((x1).toInt ≠ 6 ∧ (x1).toInt ≠ 9) ∨ (r_32).toInt < R := by omega
            refine wq_X4_addStep h2765 p2847 p2848 (fun u_38 q2849 => ?_)
            have := q2849.1
            have p2850 : (u_33.1 0).toInt = N := by omega
            have p2851 : 0 ≤ (u_33.1 1).toInt ∧ (u_33.1 1).toInt ≤ N + 1 ∧ 0 ≤ (u_33.1 2).toInt ∧ (u_33.1 2).toInt ≤ (u_33.1 1).toInt ∧ ((u_33.1 5).toInt ≠ 0 ∨ (u_33.1 1).toInt ≤ N) ∧ 0 ≤ (u_33.1 5).toInt ∧ (u_33.1 5).toInt ≤ 5000 := by omega
            have p2852 : 0 ≤ N ∧ N ≤ 400 := by omega
            have B2853 : tk (N) u_33 := ⟨p2850, p2851, p2852⟩
            exact k _ _ q2849 B2853
        · replace c2831 := q_neq c2831
          rw [li_9] at c2831
          refine ⟨fun c2854 => ?_, fun c2855 => ?_⟩
          · replace c2854 := q_eq c2854
            rw [li_10] at c2854
            have p2856 : (s1.1 0).toInt = N := by omega
            have p2857 : 0 ≤ (s1.1 1).toInt ∧ (s1.1 1).toInt ≤ N ∧ 0 ≤ (s1.1 2).toInt ∧ (s1.1 2).toInt ≤ (s1.1 1).toInt ∧ 0 ≤ (s1.1 5).toInt ∧ (s1.1 5).toInt ≤ 5000 := by omega
            have p2858 : 0 ≤ N ∧ N ≤ 400 := by omega
            have B2859 : tj (N) ((va_up s1.1 4 0), s1.2) := ⟨p2856, p2857, p2858⟩
            refine wq_X5_takeNumber B2859 (fun r_40 u_41 q2860 q2861 q2862 => ?_)
            have := q2860.1
            have := q2860.2.1
            replace q2861 : (u_41.1 5).toInt ≠ 0 ∨ ((s1.1 5).toInt = 0 ∧ ((1 : Int32)).toInt ≤ (r_40).toInt ∧ (r_40).toInt ≤ ((99 : Int32)).toInt) := q2861
            try simp only [li_1, li_99] at q2861
            replace q2862 : (r_40).toInt = ((1 : Int32)).toInt ∨ (((1 : Int32)).toInt ≤ (r_40).toInt ∧ (r_40).toInt ≤ ((99 : Int32)).toInt) := q2862
            try simp only [li_1, li_99] at q2862
            refine wq_X5_isSound (fun r_42 q2863 => ?_)
            refine ⟨fun c2864 => ?_, fun c2865 => ?_⟩
            · replace c2864 := q_eq c2864
              rw [li_0] at c2864
              have p2866 : (u_41.1 0).toInt = N := by omega
              have p2867 : 0 ≤ (u_41.1 1).toInt ∧ (u_41.1 1).toInt ≤ N + 1 ∧ 0 ≤ (u_41.1 2).toInt ∧ (u_41.1 2).toInt ≤ (u_41.1 1).toInt ∧ ((u_41.1 5).toInt ≠ 0 ∨ (u_41.1 1).toInt ≤ N) ∧ 0 ≤ (u_41.1 5).toInt ∧ (u_41.1 5).toInt ≤ 5000 := by omega
              have p2868 : 0 ≤ N ∧ N ≤ 400 := by omega
              have B2869 : tk (N) u_41 := ⟨p2866, p2867, p2868⟩
              exact k _ _ h2765 B2869
            · replace c2865 := q_neq c2865
              rw [li_0] at c2865
              have p2870 : 0 ≤ (r_40).toInt ∧ (r_40).toInt ≤ 99 := by omega
              have p2871 : ((x1).toInt ≠ 6 ∧ (x1).toInt ≠ 9) ∨ (r_40).toInt < R := by omega
              refine wq_X4_addStep h2765 p2870 p2871 (fun u_46 q2872 => ?_)
              have := q2872.1
              have p2873 : (u_41.1 0).toInt = N := by omega
              have p2874 : 0 ≤ (u_41.1 1).toInt ∧ (u_41.1 1).toInt ≤ N + 1 ∧ 0 ≤ (u_41.1 2).toInt ∧ (u_41.1 2).toInt ≤ (u_41.1 1).toInt ∧ ((u_41.1 5).toInt ≠ 0 ∨ (u_41.1 1).toInt ≤ N) ∧ 0 ≤ (u_41.1 5).toInt ∧ (u_41.1 5).toInt ≤ 5000 := by omega
              have p2875 : 0 ≤ N ∧ N ≤ 400 := by omega
              have B2876 : tk (N) u_41 := ⟨p2873, p2874, p2875⟩
              exact k _ _ q2872 B2876
          · replace c2855 := q_neq c2855
            rw [li_10] at c2855
            refine ⟨fun c2877 => ?_, fun c2878 => ?_⟩
            · replace c2877 := q_eq c2877
              rw [li_11] at c2877
              refine wq_X5_isSound (fun r_48 q2879 => ?_)
              replace q2879 : ((r_48).toInt = 1 ∧ (s1.1 5).toInt = 0) ∨ ((r_48).toInt = 0 ∧ (s1.1 5).toInt ≠ 0) := q2879
              refine ⟨fun c2880 => ?_, fun c2881 => ?_⟩
              · replace c2880 := q_eq c2880
                rw [li_0] at c2880
                have p2882 : (s1.1 0).toInt = N := by omega
                have p2883 : 0 ≤ (s1.1 1).toInt ∧ (s1.1 1).toInt ≤ N + 1 ∧ 0 ≤ (s1.1 2).toInt ∧ (s1.1 2).toInt ≤ (s1.1 1).toInt ∧ ((s1.1 5).toInt ≠ 0 ∨ (s1.1 1).toInt ≤ N) ∧ 0 ≤ (s1.1 5).toInt ∧ (s1.1 5).toInt ≤ 5000 := by omega
                have p2884 : 0 ≤ N ∧ N ≤ 400 := by omega
                have B2885 : tk (N) ((va_up s1.1 4 0), s1.2) := ⟨p2882, p2883, p2884⟩
                exact k _ _ h2765 B2885
              · replace c2881 := q_neq c2881
                rw [li_0] at c2881
                have p2886 : 0 ≤ ((0 : Int32)).toInt ∧ ((0 : Int32)).toInt ≤ 99 := by (have := li_0; omega)
                have p2887 : ((x1).toInt ≠ 6 ∧ (x1).toInt ≠ 9) ∨ ((0 : Int32)).toInt < R := by (have := li_0; omega)
                refine wq_X4_addStep h2765 p2886 p2887 (fun u_52 q2888 => ?_)
                have := q2888.1
                have p2889 : (s1.1 0).toInt = N := by omega
                have p2890 : 0 ≤ (s1.1 1).toInt ∧ (s1.1 1).toInt ≤ N + 1 ∧ 0 ≤ (s1.1 2).toInt ∧ (s1.1 2).toInt ≤ (s1.1 1).toInt ∧ ((s1.1 5).toInt ≠ 0 ∨ (s1.1 1).toInt ≤ N) ∧ 0 ≤ (s1.1 5).toInt ∧ (s1.1 5).toInt ≤ 5000 := by omega
                have p2891 : 0 ≤ N ∧ N ≤ 400 := by omega
                have B2892 : tk (N) ((va_up s1.1 4 0), s1.2) := ⟨p2889, p2890, p2891⟩
                exact k _ _ q2888 B2892
            · replace c2878 := q_neq c2878
              rw [li_11] at c2878
              refine ⟨fun c2893 => ?_, fun c2894 => ?_⟩
              · replace c2893 := q_eq c2893
                rw [li_12] at c2893
                have p2895 : (s1.1 0).toInt = N := by omega
                have p2896 : 0 ≤ (s1.1 1).toInt ∧ (s1.1 1).toInt ≤ N ∧ 0 ≤ (s1.1 2).toInt ∧ (s1.1 2).toInt ≤ (s1.1 1).toInt ∧ 0 ≤ (s1.1 5).toInt ∧ (s1.1 5).toInt ≤ 5000 := by omega
                have p2897 : 0 ≤ N ∧ N ≤ 400 := by omega
                have B2898 : tj (N) ((va_up s1.1 4 0), s1.2) := ⟨p2895, p2896, p2897⟩
                refine wq_X5_takeNumber B2898 (fun r_54 u_55 q2899 q2900 q2901 => ?_)
                have := q2899.1
                have := q2899.2.1
                replace q2900 : (u_55.1 5).toInt ≠ 0 ∨ ((s1.1 5).toInt = 0 ∧ ((0 : Int32)).toInt ≤ (r_54).toInt ∧ (r_54).toInt ≤ ((20 : Int32)).toInt) := q2900
                try simp only [li_0, li_20] at q2900
                replace q2901 : (r_54).toInt = ((0 : Int32)).toInt ∨ (((0 : Int32)).toInt ≤ (r_54).toInt ∧ (r_54).toInt ≤ ((20 : Int32)).toInt) := q2901
                try simp only [li_0, li_20] at q2901
                refine wq_X4_openTimes h2765 q2899 (fun u_57a u_57b q2902 q2903 => ?_)
                have := q2902.1
                have := q2903.1
                have := q2903.2.1
                refine wq_X5_isSound (fun r_58 q2904 => ?_)
                refine ⟨fun c2905 => ?_, fun c2906 => ?_⟩
                · replace c2905 := q_eq c2905
                  rw [li_0] at c2905
                  have p2907 : (u_57b.1 0).toInt = N := by omega
                  have p2908 : 0 ≤ (u_57b.1 1).toInt ∧ (u_57b.1 1).toInt ≤ N + 1 ∧ 0 ≤ (u_57b.1 2).toInt ∧ (u_57b.1 2).toInt ≤ (u_57b.1 1).toInt ∧ ((u_57b.1 5).toInt ≠ 0 ∨ (u_57b.1 1).toInt ≤ N) ∧ 0 ≤ (u_57b.1 5).toInt ∧ (u_57b.1 5).toInt ≤ 5000 := by omega
                  have p2909 : 0 ≤ N ∧ N ≤ 400 := by omega
                  have B2910 : tk (N) u_57b := ⟨p2907, p2908, p2909⟩
                  exact k _ _ q2902 B2910
                · replace c2906 := q_neq c2906
                  rw [li_0] at c2906
                  have p2911 : 0 ≤ (r_54).toInt ∧ (r_54).toInt ≤ 99 := by omega
                  have p2912 : ((x1).toInt ≠ 6 ∧ (x1).toInt ≠ 9) ∨ (r_54).toInt < R := by omega
                  refine wq_X4_addStep q2902 p2911 p2912 (fun u_62 q2913 => ?_)
                  have := q2913.1
                  have p2914 : (u_57b.1 0).toInt = N := by omega
                  have p2915 : 0 ≤ (u_57b.1 1).toInt ∧ (u_57b.1 1).toInt ≤ N + 1 ∧ 0 ≤ (u_57b.1 2).toInt ∧ (u_57b.1 2).toInt ≤ (u_57b.1 1).toInt ∧ ((u_57b.1 5).toInt ≠ 0 ∨ (u_57b.1 1).toInt ≤ N) ∧ 0 ≤ (u_57b.1 5).toInt ∧ (u_57b.1 5).toInt ≤ 5000 := by omega
                  have p2916 : 0 ≤ N ∧ N ≤ 400 := by omega
                  have B2917 : tk (N) u_57b := ⟨p2914, p2915, p2916⟩
                  exact k _ _ q2913 B2917
              · replace c2894 := q_neq c2894
                rw [li_12] at c2894
                have p2918 : (s1.1 0).toInt = N := by omega
                have p2919 : 0 ≤ (s1.1 1).toInt ∧ (s1.1 1).toInt ≤ N + 1 ∧ 0 ≤ (s1.1 2).toInt ∧ (s1.1 2).toInt ≤ (s1.1 1).toInt ∧ ((s1.1 5).toInt ≠ 0 ∨ (s1.1 1).toInt ≤ N) ∧ 0 ≤ (s1.1 5).toInt ∧ (s1.1 5).toInt ≤ 5000 := by omega
                have p2920 : 0 ≤ N ∧ N ≤ 400 := by omega
                have B2921 : tk (N) ((va_up s1.1 4 0), s1.2) := ⟨p2918, p2919, p2920⟩
                have p2922 : 0 ≤ (s1.1 2).toInt ∧ (s1.1 2).toInt ≤ 500 ∧ 1 ≤ ((1 : Int32)).toInt ∧ ((1 : Int32)).toInt ≤ 4 := by (have := li_1; omega)
                refine wq_X5_blame B2921 p2922 (fun u_64 q2923 q2924 q2925 q2926 q2927 q2928 => ?_)
                have := q2923.1
                have := q2923.2.1
                replace q2924 : (u_64.1 1).toInt = (s1.1 1).toInt := q2924
                replace q2925 : (u_64.1 2).toInt = (s1.1 2).toInt := q2925
                replace q2926 : (u_64.1 3).toInt = (s1.1 3).toInt := q2926
                replace q2927 : (u_64.1 4).toInt = (0 : Int32).toInt := q2927
                try simp only [li_0] at q2927
                replace q2928 : ¬ (u_64.1 5).toInt = 0 := q2928
                refine wq_X5_isSound (fun r_65 q2929 => ?_)
                refine ⟨fun c2930 => ?_, fun c2931 => ?_⟩
                · replace c2930 := q_eq c2930
                  rw [li_0] at c2930
                  exact k _ _ h2765 q2923
                · replace c2931 := q_neq c2931
                  rw [li_0] at c2931
                  have p2932 : 0 ≤ ((0 : Int32)).toInt ∧ ((0 : Int32)).toInt ≤ 99 := by (have := li_0; omega)
                  have p2933 : ((x1).toInt ≠ 6 ∧ (x1).toInt ≠ 9) ∨ ((0 : Int32)).toInt < R := by (have := li_0; omega)
                  refine wq_X4_addStep h2765 p2932 p2933 (fun u_69 q2934 => ?_)
                  have := q2934.1
                  exact k _ _ q2934 q2923
theorem wq_X4_closeTimes {post : Pg → Prop} {s0 : Pg} {x1 : Int32} {R : Int} (h2935 : pg (R) s0) (k : ∀ (u : Pg), pg (R) u → post u) : wp_X4_closeTimes post s0 x1 := by
  unfold wp_X4_closeTimes
  have := h2935.1
  refine wq_X4_hasStep h2935 (fun r_1 q2936 => ?_)
  refine ⟨fun c2937 => ?_, fun c2938 => ?_⟩
  · replace c2937 := q_eq c2937
    rw [li_0] at c2937
    exact k _ h2935
  · replace c2938 := q_neq c2938
    rw [li_0] at c2938
    have v2939 : vp_in x1 80 := vi (by omega) (by omega)
    refine ⟨v2939, ?_⟩
    have p2940 : 0 ≤ (s0.1 0).toInt ∧ (s0.1 0).toInt ≤ 3 ∧ 0 ≤ (s0.1 1).toInt ∧ (s0.1 1).toInt ≤ 80 := by omega
    have p2941 : ar 80 (0) (99) (s0.2 1) := h2935.2.1
    have B2942 : pg (R) (s0.1, (va_up s0.2 4 (upd (s0.2 4) (Int32.toNatClampNeg x1) (s0.1 1)))) := ⟨p2940, p2941, h2935.2.2⟩
    exact k _ B2942
theorem wq_X4_goesOn_L2 {post : Int32 → Pg → Tp → Prop} {e105 : Pg → Tp → Int32 → Prop} {R N : Int} (ke105 : ∀ (t0 : Pg) (t1 : Tp) (z2 : Int32), pg (R) t0 → tj (N) t1 → 0 ≤ (z2).toInt ∧ (z2).toInt ≤ 4 → e105 t0 t1 z2) (k : ∀ (r : Int32) (ua : Pg) (ub : Tp), pg (R) ua → tk (N) ub → (r).toInt = 0 ∨ (ub.1 1).toInt ≤ N → post r ua ub) : ∀ (n : Nat) (t0 : Pg) (t1 : Tp) (z2 : Int32), pg (R) t0 → tj (N) t1 → 0 ≤ (z2).toInt ∧ (z2).toInt ≤ 4 → 4 - (z2).toInt < (n : Int) → wp_X4_goesOn_L2 post e105 n t0 t1 z2 := by
  intro n
  induction n with
  | zero =>
    intro t0 t1 z2 i2943 i2944 i2945 i2946
    have := i2943.1
    have := i2944.1
    have := i2944.2.1
    have := i2944.2.2
    exfalso
    omega
  | succ n ih =>
    intro t0 t1 z2 i2943 i2944 i2945 i2946
    unfold wp_X4_goesOn_L2
    have := i2943.1
    have := i2944.1
    have := i2944.2.1
    have := i2944.2.2
    refine ⟨fun c2947 => ?_, fun c2948 => ?_⟩
    · replace c2947 := q_lt c2947
      rw [li_3] at c2947
      have p2949 : 0 ≤ (z2).toInt ∧ (z2).toInt ≤ 4 := by omega
      exact ke105 _ _ _ i2943 i2944 p2949
    · replace c2948 := q_nlt c2948
      rw [li_3] at c2948
      refine wq_X5_peek i2944 (fun r_2 u_3 q2950 q2951 q2952 q2953 q2954 q2955 q2956 q2957 q2958 q2959 => ?_)
      have := q2950.1
      have := q2950.2.1
      refine ⟨fun c2960 => ?_, fun c2961 => ?_⟩
      · replace c2960 := q_neq c2960
        rw [li_59] at c2960
        refine ⟨fun c2962 => ?_, fun c2963 => ?_⟩
        · replace c2962 := q_neq c2962
          rw [li_41] at c2962
          refine ⟨fun c2964 => ?_, fun c2965 => ?_⟩
          · replace c2964 := q_neq c2964
            rw [li_m1] at c2964
            have p2966 : (u_3.1 0).toInt = N := by omega
            have p2967 : 0 ≤ (u_3.1 1).toInt ∧ (u_3.1 1).toInt ≤ N + 1 ∧ 0 ≤ (u_3.1 2).toInt ∧ (u_3.1 2).toInt ≤ (u_3.1 1).toInt ∧ ((u_3.1 5).toInt ≠ 0 ∨ (u_3.1 1).toInt ≤ N) ∧ 0 ≤ (u_3.1 5).toInt ∧ (u_3.1 5).toInt ≤ 5000 := by omega
            have p2968 : 0 ≤ N ∧ N ≤ 400 := by omega
            have B2969 : tk (N) u_3 := ⟨p2966, p2967, p2968⟩
            have p2970 : 0 ≤ (u_3.1 1).toInt ∧ (u_3.1 1).toInt ≤ 500 ∧ 1 ≤ ((1 : Int32)).toInt ∧ ((1 : Int32)).toInt ≤ 4 := by (have := li_1; omega)
            refine wq_X5_blame B2969 p2970 (fun u_8 q2971 q2972 q2973 q2974 q2975 q2976 => ?_)
            have := q2971.1
            have := q2971.2.1
            have p2977 : (0 : Int32).toInt = 0 ∨ (u_8.1 1).toInt ≤ N := by (have := li_0; omega)
            exact k _ _ _ i2943 q2971 p2977
          · replace c2965 := q_eq c2965
            rw [li_m1] at c2965
            refine ⟨fun c2978 => ?_, fun c2979 => ?_⟩
            · replace c2978 := q_le c2978
              rw [li_0] at c2978
              have p2980 : (u_3.1 0).toInt = N := by omega
              have p2981 : 0 ≤ (u_3.1 1).toInt ∧ (u_3.1 1).toInt ≤ N + 1 ∧ 0 ≤ (u_3.1 2).toInt ∧ (u_3.1 2).toInt ≤ (u_3.1 1).toInt ∧ ((u_3.1 5).toInt ≠ 0 ∨ (u_3.1 1).toInt ≤ N) ∧ 0 ≤ (u_3.1 5).toInt ∧ (u_3.1 5).toInt ≤ 5000 := by omega
              have p2982 : 0 ≤ N ∧ N ≤ 400 := by omega
              have B2983 : tk (N) u_3 := ⟨p2980, p2981, p2982⟩
              have p2984 : (0 : Int32).toInt = 0 ∨ (u_3.1 1).toInt ≤ N := by (have := li_0; omega)
              exact k _ _ _ i2943 B2983 p2984
            · replace c2979 := q_nle c2979
              rw [li_0] at c2979
              have p2985 : (u_3.1 0).toInt = N := by omega
              have p2986 : 0 ≤ (u_3.1 1).toInt ∧ (u_3.1 1).toInt ≤ N + 1 ∧ 0 ≤ (u_3.1 2).toInt ∧ (u_3.1 2).toInt ≤ (u_3.1 1).toInt ∧ ((u_3.1 5).toInt ≠ 0 ∨ (u_3.1 1).toInt ≤ N) ∧ 0 ≤ (u_3.1 5).toInt ∧ (u_3.1 5).toInt ≤ 5000 := by omega
              have p2987 : 0 ≤ N ∧ N ≤ 400 := by omega
              have B2988 : tk (N) u_3 := ⟨p2985, p2986, p2987⟩
              have p2989 : 0 ≤ (u_3.1 1).toInt ∧ (u_3.1 1).toInt ≤ 500 ∧ 1 ≤ ((1 : Int32)).toInt ∧ ((1 : Int32)).toInt ≤ 4 := by (have := li_1; omega)
              refine wq_X5_blame B2988 p2989 (fun u_11 q2990 q2991 q2992 q2993 q2994 q2995 => ?_)
              have := q2990.1
              have := q2990.2.1
              have p2996 : (0 : Int32).toInt = 0 ∨ (u_11.1 1).toInt ≤ N := by (have := li_0; omega)
              exact k _ _ _ i2943 q2990 p2996
        · replace c2963 := q_eq c2963
          rw [li_41] at c2963
          refine ⟨fun c2997 => ?_, fun c2998 => ?_⟩
          · replace c2997 := q_lt c2997
            rw [li_0] at c2997
            have e2999 := tq_subr li_1 (t0.1 0)
            try rw [Int.emod_eq_of_lt (show 0 ≤ (t0.1 0).toInt - 1 + 2147483648 by omega) (show (t0.1 0).toInt - 1 + 2147483648 < 4294967296 by omega)] at e2999
            have v3000 : vp_in ((t0.1 0) - 1) 3 := vi (by omega) (by omega)
            refine ⟨v3000, ?_⟩
            have p3001 : 0 ≤ ((t0.1 0) - 1).toInt ∧ ((t0.1 0) - 1).toInt ≤ 3 ∧ 0 ≤ (t0.1 1).toInt ∧ (t0.1 1).toInt ≤ 80 := by omega
            have p3002 : ar 80 (0) (99) (t0.2 1) := i2943.2.1
            have B3003 : pg (R) ((va_up t0.1 0 ((t0.1 0) - 1)), t0.2) := ⟨p3001, p3002, i2943.2.2⟩
            refine wq_X4_closeTimes B3003 (fun u_15 q3004 => ?_)
            have := q3004.1
            have p3005 : (u_3.1 0).toInt = N := by omega
            have e3006 := tq_addr li_1 (u_3.1 1)
            try rw [Int.emod_eq_of_lt (show 0 ≤ (u_3.1 1).toInt + 1 + 2147483648 by omega) (show (u_3.1 1).toInt + 1 + 2147483648 < 4294967296 by omega)] at e3006
            have p3007 : 0 ≤ ((u_3.1 1) + 1).toInt ∧ ((u_3.1 1) + 1).toInt ≤ N ∧ 0 ≤ (u_3.1 2).toInt ∧ (u_3.1 2).toInt ≤ ((u_3.1 1) + 1).toInt ∧ 0 ≤ (u_3.1 5).toInt ∧ (u_3.1 5).toInt ≤ 5000 := by omega
            have p3008 : 0 ≤ N ∧ N ≤ 400 := by omega
            have B3009 : tj (N) ((va_up u_3.1 1 ((u_3.1 1) + 1)), u_3.2) := ⟨p3005, p3007, p3008⟩
            have e3010 := tq_addr li_1 z2
            try rw [Int.emod_eq_of_lt (show 0 ≤ (z2).toInt + 1 + 2147483648 by omega) (show (z2).toInt + 1 + 2147483648 < 4294967296 by omega)] at e3010
            have p3011 : 0 ≤ (z2 + 1).toInt ∧ (z2 + 1).toInt ≤ 4 := by omega
            have p3012 : 4 - (z2 + 1).toInt < ((n : Nat) : Int) := by (omega)
            exact ih _ _ _ q3004 B3009 p3011 p3012
          · replace c2998 := q_nlt c2998
            rw [li_0] at c2998
            refine ⟨fun c3013 => ?_, fun c3014 => ?_⟩
            · replace c3013 := q_neq c3013
              rw [li_m1] at c3013
              have p3015 : (u_3.1 0).toInt = N := by omega
              have p3016 : 0 ≤ (u_3.1 1).toInt ∧ (u_3.1 1).toInt ≤ N + 1 ∧ 0 ≤ (u_3.1 2).toInt ∧ (u_3.1 2).toInt ≤ (u_3.1 1).toInt ∧ ((u_3.1 5).toInt ≠ 0 ∨ (u_3.1 1).toInt ≤ N) ∧ 0 ≤ (u_3.1 5).toInt ∧ (u_3.1 5).toInt ≤ 5000 := by omega
              have p3017 : 0 ≤ N ∧ N ≤ 400 := by omega
              have B3018 : tk (N) u_3 := ⟨p3015, p3016, p3017⟩
              have p3019 : 0 ≤ (u_3.1 1).toInt ∧ (u_3.1 1).toInt ≤ 500 ∧ 1 ≤ ((1 : Int32)).toInt ∧ ((1 : Int32)).toInt ≤ 4 := by (have := li_1; omega)
              refine wq_X5_blame B3018 p3019 (fun u_18 q3020 q3021 q3022 q3023 q3024 q3025 => ?_)
              have := q3020.1
              have := q3020.2.1
              have p3026 : (0 : Int32).toInt = 0 ∨ (u_18.1 1).toInt ≤ N := by (have := li_0; omega)
              exact k _ _ _ i2943 q3020 p3026
            · replace c3014 := q_eq c3014
              rw [li_m1] at c3014
              refine ⟨fun c3027 => ?_, fun c3028 => ?_⟩
              · replace c3027 := q_le c3027
                rw [li_0] at c3027
                have p3029 : (u_3.1 0).toInt = N := by omega
                have p3030 : 0 ≤ (u_3.1 1).toInt ∧ (u_3.1 1).toInt ≤ N + 1 ∧ 0 ≤ (u_3.1 2).toInt ∧ (u_3.1 2).toInt ≤ (u_3.1 1).toInt ∧ ((u_3.1 5).toInt ≠ 0 ∨ (u_3.1 1).toInt ≤ N) ∧ 0 ≤ (u_3.1 5).toInt ∧ (u_3.1 5).toInt ≤ 5000 := by omega
                have p3031 : 0 ≤ N ∧ N ≤ 400 := by omega
                have B3032 : tk (N) u_3 := ⟨p3029, p3030, p3031⟩
                have p3033 : (0 : Int32).toInt = 0 ∨ (u_3.1 1).toInt ≤ N := by (have := li_0; omega)
                exact k _ _ _ i2943 B3032 p3033
              · replace c3028 := q_nle c3028
                rw [li_0] at c3028
                have p3034 : (u_3.1 0).toInt = N := by omega
                have p3035 : 0 ≤ (u_3.1 1).toInt ∧ (u_3.1 1).toInt ≤ N + 1 ∧ 0 ≤ (u_3.1 2).toInt ∧ (u_3.1 2).toInt ≤ (u_3.1 1).toInt ∧ ((u_3.1 5).toInt ≠ 0 ∨ (u_3.1 1).toInt ≤ N) ∧ 0 ≤ (u_3.1 5).toInt ∧ (u_3.1 5).toInt ≤ 5000 := by omega
                have p3036 : 0 ≤ N ∧ N ≤ 400 := by omega
                have B3037 : tk (N) u_3 := ⟨p3034, p3035, p3036⟩
                have p3038 : 0 ≤ (u_3.1 1).toInt ∧ (u_3.1 1).toInt ≤ 500 ∧ 1 ≤ ((1 : Int32)).toInt ∧ ((1 : Int32)).toInt ≤ 4 := by (have := li_1; omega)
                refine wq_X5_blame B3037 p3038 (fun u_21 q3039 q3040 q3041 q3042 q3043 q3044 => ?_)
                have := q3039.1
                have := q3039.2.1
                have p3045 : (0 : Int32).toInt = 0 ∨ (u_21.1 1).toInt ≤ N := by (have := li_0; omega)
                exact k _ _ _ i2943 q3039 p3045
      · replace c2961 := q_eq c2961
        rw [li_59] at c2961
        have p3046 : (u_3.1 0).toInt = N := by omega
        have e3047 := tq_addr li_1 (u_3.1 1)
        try rw [Int.emod_eq_of_lt (show 0 ≤ (u_3.1 1).toInt + 1 + 2147483648 by omega) (show (u_3.1 1).toInt + 1 + 2147483648 < 4294967296 by omega)] at e3047
        have p3048 : 0 ≤ ((u_3.1 1) + 1).toInt ∧ ((u_3.1 1) + 1).toInt ≤ N + 1 ∧ 0 ≤ (u_3.1 2).toInt ∧ (u_3.1 2).toInt ≤ ((u_3.1 1) + 1).toInt ∧ ((u_3.1 5).toInt ≠ 0 ∨ ((u_3.1 1) + 1).toInt ≤ N) ∧ 0 ≤ (u_3.1 5).toInt ∧ (u_3.1 5).toInt ≤ 5000 := by omega
        have p3049 : 0 ≤ N ∧ N ≤ 400 := by omega
        have B3050 : tk (N) ((va_up u_3.1 1 ((u_3.1 1) + 1)), u_3.2) := ⟨p3046, p3048, p3049⟩
        have p3051 : (1 : Int32).toInt = 0 ∨ ((u_3.1 1) + 1).toInt ≤ N := by (have := li_1; omega)
        exact k _ _ _ i2943 B3050 p3051
theorem wq_X4_goesOn {post : Int32 → Pg → Tp → Prop} {s0 : Pg} {s1 : Tp} {R N : Int} (h3052 : pg (R) s0) (h3053 : tj (N) s1) (k : ∀ (r : Int32) (ua : Pg) (ub : Tp), pg (R) ua → tk (N) ub → (r).toInt = 0 ∨ (ub.1 1).toInt ≤ N → post r ua ub) : wp_X4_goesOn post s0 s1 := by
  unfold wp_X4_goesOn
  have := h3052.1
  have := h3053.1
  have := h3053.2.1
  have := h3053.2.2
  have p3054 : 0 ≤ (0 : Int32).toInt ∧ (0 : Int32).toInt ≤ 4 := by (have := li_0; omega)
  obtain ⟨f3055, g3056⟩ := fu_e 10
  have p3057 : 4 - (0 : Int32).toInt < (f3055 : Int) := by (have := li_0; omega)
  refine ⟨f3055, wq_X4_goesOn_L2 (fun t0 t1 z2 q3058 q3059 q3060 => ?_) k f3055 _ _ _ h3052 h3053 p3054 p3057⟩
  have := q3058.1
  have := q3059.1
  have := q3059.2.1
  have p3061 : (t1.1 0).toInt = N := by omega
  have p3062 : 0 ≤ (t1.1 1).toInt ∧ (t1.1 1).toInt ≤ N + 1 ∧ 0 ≤ (t1.1 2).toInt ∧ (t1.1 2).toInt ≤ (t1.1 1).toInt ∧ ((t1.1 5).toInt ≠ 0 ∨ (t1.1 1).toInt ≤ N) ∧ 0 ≤ (t1.1 5).toInt ∧ (t1.1 5).toInt ≤ 5000 := by omega
  have p3063 : 0 ≤ N ∧ N ≤ 400 := by omega
  have B3064 : tk (N) t1 := ⟨p3061, p3062, p3063⟩
  have p3065 : (0 : Int32).toInt = 0 ∨ (t1.1 1).toInt ≤ N := by (have := li_0; omega)
  exact k _ _ _ q3058 B3064 p3065
theorem wq_X4_readFrom_L19 {s2 : Bd} {post : Pg → Tp → Prop} {e78 : Pg → Tp → Int32 → Int32 → Prop} {R W N : Int} (h3066 : bi (R) (W) s2) (ke78 : ∀ (t0 : Pg) (t1 : Tp) (z3 : Int32) (z4 : Int32), pg (R) t0 → tk (N) t1 → 0 ≤ (z4).toInt ∧ (z4).toInt ≤ 80 → (z3).toInt = 0 ∨ (t1.1 1).toInt ≤ N → e78 t0 t1 z3 z4) : ∀ (n : Nat) (t0 : Pg) (t1 : Tp) (z3 : Int32) (z4 : Int32), pg (R) t0 → tk (N) t1 → 0 ≤ (z4).toInt ∧ (z4).toInt ≤ 80 → (z3).toInt = 0 ∨ (t1.1 1).toInt ≤ N → 80 - (z4).toInt < (n : Int) → wp_X4_readFrom_L19 s2 post e78 n t0 t1 z3 z4 := by
  have := h3066.1
  have := h3066.2.1
  have := h3066.2.2.1
  have := h3066.2.2.2.1
  have := h3066.2.2.2.2.2.2.2.2.2
  intro n
  induction n with
  | zero =>
    intro t0 t1 z3 z4 i3067 i3068 i3069 i3070 i3071
    have := i3067.1
    have := i3068.1
    have := i3068.2.1
    have := i3068.2.2
    exfalso
    omega
  | succ n ih =>
    intro t0 t1 z3 z4 i3067 i3068 i3069 i3070 i3071
    unfold wp_X4_readFrom_L19
    have := i3067.1
    have := i3068.1
    have := i3068.2.1
    have := i3068.2.2
    refine ⟨fun c3072 => ?_, fun c3073 => ?_⟩
    · replace c3072 := q_le c3072
      rw [li_80] at c3072
      have p3074 : 0 ≤ (z4).toInt ∧ (z4).toInt ≤ 80 := by omega
      have p3075 : (z3).toInt = 0 ∨ (t1.1 1).toInt ≤ N := by omega
      exact ke78 _ _ _ _ i3067 i3068 p3074 p3075
    · replace c3073 := q_nle c3073
      rw [li_80] at c3073
      refine ⟨fun c3076 => ?_, fun c3077 => ?_⟩
      · replace c3076 := q_eq c3076
        rw [li_0] at c3076
        have p3078 : 0 ≤ (z4).toInt ∧ (z4).toInt ≤ 80 := by omega
        have p3079 : (z3).toInt = 0 ∨ (t1.1 1).toInt ≤ N := by omega
        exact ke78 _ _ _ _ i3067 i3068 p3078 p3079
      · replace c3077 := q_neq c3077
        rw [li_0] at c3077
        have p3080 : (t1.1 0).toInt = N := by omega
        have p3081 : 0 ≤ (t1.1 1).toInt ∧ (t1.1 1).toInt ≤ N ∧ 0 ≤ (t1.1 2).toInt ∧ (t1.1 2).toInt ≤ (t1.1 1).toInt ∧ 0 ≤ (t1.1 5).toInt ∧ (t1.1 5).toInt ≤ 5000 := by omega
        have p3082 : 0 ≤ N ∧ N ≤ 400 := by omega
        have B3083 : tj (N) t1 := ⟨p3080, p3081, p3082⟩
        refine wq_X5_takeWord B3083 (fun r_5 u_6 q3084 q3085 q3086 q3087 => ?_)
        have := q3084.1
        have := q3084.2.1
        refine wq_X4_readStep i3067 q3084 h3066 (fun u_8a u_8b q3088 q3089 => ?_)
        have := q3088.1
        have := q3089.1
        have := q3089.2.1
        refine wq_X5_isSound (fun r_9 q3090 => ?_)
        refine ⟨fun c3091 => ?_, fun c3092 => ?_⟩
        · replace c3091 := q_eq c3091
          rw [li_0] at c3091
          have e3093 := tq_addr li_1 z4
          try rw [Int.emod_eq_of_lt (show 0 ≤ (z4).toInt + 1 + 2147483648 by omega) (show (z4).toInt + 1 + 2147483648 < 4294967296 by omega)] at e3093
          have p3094 : 0 ≤ (z4 + 1).toInt ∧ (z4 + 1).toInt ≤ 80 := by omega
          have p3095 : (0 : Int32).toInt = 0 ∨ (u_8b.1 1).toInt ≤ N := by (have := li_0; omega)
          have p3096 : 80 - (z4 + 1).toInt < ((n : Nat) : Int) := by (omega)
          exact ih _ _ _ _ q3088 q3089 p3094 p3095 p3096
        · replace c3092 := q_neq c3092
          rw [li_0] at c3092
          refine ⟨fun c3097 => ?_, fun c3098 => ?_⟩
          · replace c3097 := q_eq c3097
            rw [li_12] at c3097
            have e3099 := tq_addr li_1 z4
            try rw [Int.emod_eq_of_lt (show 0 ≤ (z4).toInt + 1 + 2147483648 by omega) (show (z4).toInt + 1 + 2147483648 < 4294967296 by omega)] at e3099
            have p3100 : 0 ≤ (z4 + 1).toInt ∧ (z4 + 1).toInt ≤ 80 := by omega
            have p3101 : (1 : Int32).toInt = 0 ∨ (u_8b.1 1).toInt ≤ N := by (have := li_1; omega)
            have p3102 : 80 - (z4 + 1).toInt < ((n : Nat) : Int) := by (omega)
            exact ih _ _ _ _ q3088 q3089 p3100 p3101 p3102
          · replace c3098 := q_neq c3098
            rw [li_12] at c3098
            have p3103 : (u_8b.1 0).toInt = N := by omega
            have p3104 : 0 ≤ (u_8b.1 1).toInt ∧ (u_8b.1 1).toInt ≤ N ∧ 0 ≤ (u_8b.1 2).toInt ∧ (u_8b.1 2).toInt ≤ (u_8b.1 1).toInt ∧ 0 ≤ (u_8b.1 5).toInt ∧ (u_8b.1 5).toInt ≤ 5000 := by omega
            have p3105 : 0 ≤ N ∧ N ≤ 400 := by omega
            have B3106 : tj (N) u_8b := ⟨p3103, p3104, p3105⟩
            refine wq_X4_goesOn q3088 B3106 (fun r_13 u_14a u_14b q3107 q3108 q3109 => ?_)
            have := q3107.1
            have := q3108.1
            have := q3108.2.1
            refine ⟨fun c3110 => ?_, fun c3111 => ?_⟩
            · replace c3110 := q_eq c3110
              rw [li_0] at c3110
              have e3112 := tq_addr li_1 z4
              try rw [Int.emod_eq_of_lt (show 0 ≤ (z4).toInt + 1 + 2147483648 by omega) (show (z4).toInt + 1 + 2147483648 < 4294967296 by omega)] at e3112
              have p3113 : 0 ≤ (z4 + 1).toInt ∧ (z4 + 1).toInt ≤ 80 := by omega
              have p3114 : (0 : Int32).toInt = 0 ∨ (u_14b.1 1).toInt ≤ N := by (have := li_0; omega)
              have p3115 : 80 - (z4 + 1).toInt < ((n : Nat) : Int) := by (omega)
              exact ih _ _ _ _ q3107 q3108 p3113 p3114 p3115
            · replace c3111 := q_neq c3111
              rw [li_0] at c3111
              have e3116 := tq_addr li_1 z4
              try rw [Int.emod_eq_of_lt (show 0 ≤ (z4).toInt + 1 + 2147483648 by omega) (show (z4).toInt + 1 + 2147483648 < 4294967296 by omega)] at e3116
              have p3117 : 0 ≤ (z4 + 1).toInt ∧ (z4 + 1).toInt ≤ 80 := by omega
              have p3118 : (1 : Int32).toInt = 0 ∨ (u_14b.1 1).toInt ≤ N := by (have := li_1; omega)
              have p3119 : 80 - (z4 + 1).toInt < ((n : Nat) : Int) := by (omega)
              exact ih _ _ _ _ q3107 q3108 p3117 p3118 p3119

theorem wq_X4_readFrom {post : Pg → Tp → Prop} {s0 : Pg} {s1 : Tp} {s2 : Bd} {N R W : Int} (h3120 : pz s0) (h3121 : tz (N) s1) (h3122 : bi (R) (W) s2) (k : ∀ (ua : Pg) (ub : Tp), pg (R) ua → tk (N) ub → post ua ub) : wp_X4_readFrom post s0 s1 s2 := by
  unfold wp_X4_readFrom
  have := h3120.1
  have := h3121.1
  have := h3121.2
  have := h3122.1
  have := h3122.2.1
  have := h3122.2.2.1
  have := h3122.2.2.2.1
  have := h3122.2.2.2.2.2.2.2.2.2
  refine wq_X5_startReading h3121 (fun u_2 q3123 q3124 => ?_)
  have := q3123.1
  have := q3123.2.1
  have p3125 : 0 ≤ (0 : Int32).toInt ∧ (0 : Int32).toInt ≤ 3 ∧ 0 ≤ (0 : Int32).toInt ∧ (0 : Int32).toInt ≤ 80 := by (have := li_0; omega)
  have p3126 : ar 80 (0) (99) (s0.2 1) := h3120.2
  have B3127 : pg (R) ((va_up (va_up s0.1 0 0) 1 0), s0.2) := ⟨p3125, p3126, (fun k hk => absurd (show (k : Int) < 0 from hk) (by omega))⟩
  have p3128 : (u_2.1 0).toInt = N := by omega
  have p3129 : 0 ≤ (u_2.1 1).toInt ∧ (u_2.1 1).toInt ≤ N + 1 ∧ 0 ≤ (u_2.1 2).toInt ∧ (u_2.1 2).toInt ≤ (u_2.1 1).toInt ∧ ((u_2.1 5).toInt ≠ 0 ∨ (u_2.1 1).toInt ≤ N) ∧ 0 ≤ (u_2.1 5).toInt ∧ (u_2.1 5).toInt ≤ 5000 := by omega
  have p3130 : 0 ≤ N ∧ N ≤ 400 := by omega
  have B3131 : tk (N) u_2 := ⟨p3128, p3129, p3130⟩
  have p3132 : 0 ≤ (0 : Int32).toInt ∧ (0 : Int32).toInt ≤ 80 := by (have := li_0; omega)
  have p3133 : (1 : Int32).toInt = 0 ∨ (u_2.1 1).toInt ≤ N := by (have := li_1; omega)
  obtain ⟨f3134, g3135⟩ := fu_e 100
  have p3136 : 80 - (0 : Int32).toInt < (f3134 : Int) := by (have := li_0; omega)
  refine ⟨f3134, wq_X4_readFrom_L19 h3122 (fun t0 t1 z3 z4 q3137 q3138 q3139 q3140 => ?_) f3134 _ _ _ _ B3127 B3131 p3132 p3133 p3136⟩
  have := q3137.1
  have := q3138.1
  have := q3138.2.1
  exact k _ _ q3137 q3138
theorem wq_X5_addNumber_L3 {post : Tp → Prop} {e49 : Tp → Int32 → Int32 → Prop} {N : Int} (ke49 : ∀ (t0 : Tp) (z1 : Int32) (z2 : Int32), 8 * (t0.1 0).toInt + (z2).toInt = 8 * N + 24 → -8 ≤ (z2).toInt ∧ (z2).toInt < 0 → e49 t0 z1 z2) : ∀ (n : Nat) (t0 : Tp) (z1 : Int32) (z2 : Int32), 8 * (t0.1 0).toInt + (z2).toInt = 8 * N + 24 → -8 ≤ (z2).toInt ∧ (z2).toInt ≤ 24 → 0 ≤ N ∧ N + 4 ≤ 400 → (z2).toInt + 8 < (n : Int) → wp_X5_addNumber_L3 post e49 n t0 z1 z2 := by
  intro n
  induction n with
  | zero =>
    intro t0 z1 z2 i3141 i3142 i3143 i3144
    exfalso
    omega
  | succ n ih =>
    intro t0 z1 z2 i3141 i3142 i3143 i3144
    unfold wp_X5_addNumber_L3
    refine ⟨fun c3145 => ?_, fun c3146 => ?_⟩
    · replace c3145 := q_lt c3145
      rw [li_0] at c3145
      have p3147 : 8 * (t0.1 0).toInt + (z2).toInt = 8 * N + 24 := by omega
      have p3148 : -8 ≤ (z2).toInt ∧ (z2).toInt < 0 := by omega
      exact ke49 _ _ _ p3147 p3148
    · replace c3146 := q_nlt c3146
      rw [li_0] at c3146
      refine ⟨fun c3149 => ?_, fun c3150 => ?_⟩
      · replace c3149 := q_le c3149
        rw [li_400] at c3149
        generalize hy3152 : (z2 + (-8)) = y3151
        have e3153 := tq_addr li_m8 z2
        rw [hy3152] at e3153
        try rw [Int.emod_eq_of_lt (show 0 ≤ (z2).toInt + (-8) + 2147483648 by omega) (show (z2).toInt + (-8) + 2147483648 < 4294967296 by omega)] at e3153
        have p3154 : 8 * (t0.1 0).toInt + (y3151).toInt = 8 * N + 24 := by omega
        have p3155 : -8 ≤ (y3151).toInt ∧ (y3151).toInt ≤ 24 := by omega
        have p3156 : 0 ≤ N ∧ N + 4 ≤ 400 := by omega
        have p3157 : (y3151).toInt + 8 < ((n : Nat) : Int) := by (omega)
        exact ih _ _ _ p3154 p3155 p3156 p3157
      · replace c3150 := q_nle c3150
        rw [li_400] at c3150
        have v3158 : vp_in (t0.1 0) 400 := vi (by omega) (by omega)
        refine ⟨v3158, ?_⟩
        generalize hy3160 : (z2 + (-8)) = y3159
        have e3161 := tq_addr li_m8 z2
        rw [hy3160] at e3161
        try rw [Int.emod_eq_of_lt (show 0 ≤ (z2).toInt + (-8) + 2147483648 by omega) (show (z2).toInt + (-8) + 2147483648 < 4294967296 by omega)] at e3161
        have e3162 := tq_addr li_1 (t0.1 0)
        try rw [Int.emod_eq_of_lt (show 0 ≤ (t0.1 0).toInt + 1 + 2147483648 by omega) (show (t0.1 0).toInt + 1 + 2147483648 < 4294967296 by omega)] at e3162
        have p3163 : 8 * ((t0.1 0) + 1).toInt + (y3159).toInt = 8 * N + 24 := by omega
        have p3164 : -8 ≤ (y3159).toInt ∧ (y3159).toInt ≤ 24 := by omega
        have p3165 : 0 ≤ N ∧ N + 4 ≤ 400 := by omega
        have p3166 : (y3159).toInt + 8 < ((n : Nat) : Int) := by (omega)
        exact ih _ _ _ p3163 p3164 p3165 p3166
theorem wq_X5_addNumber {post : Tp → Prop} {s0 : Tp} {x1 : Int32} {N : Int} (h3167 : tz (N) s0) (h3168 : N + 4 ≤ 400) (k : ∀ (u : Tp), tz (N + 4) u → post u) : wp_X5_addNumber post s0 x1 := by
  unfold wp_X5_addNumber
  have := h3167.1
  have := h3167.2
  have p3169 : 8 * (s0.1 0).toInt + (24 : Int32).toInt = 8 * ((s0.1 0).toInt) + 24 := by (have := li_24; omega)
  have p3170 : -8 ≤ (24 : Int32).toInt ∧ (24 : Int32).toInt ≤ 24 := by (have := li_24; omega)
  have p3171 : 0 ≤ ((s0.1 0).toInt) ∧ ((s0.1 0).toInt) + 4 ≤ 400 := by omega
  obtain ⟨f3172, g3173⟩ := fu_e 50
  have p3174 : (24 : Int32).toInt + 8 < (f3172 : Int) := by (have := li_24; omega)
  refine ⟨f3172, wq_X5_addNumber_L3 (fun t0 z1 z2 q3175 q3176 => ?_) f3172 _ _ _ p3169 p3170 p3171 p3174⟩
  have p3177 : (t0.1 0).toInt = N + 4 := by omega
  have p3178 : 0 ≤ N + 4 ∧ N + 4 ≤ 400 := by omega
  have B3179 : tz (N + 4) t0 := ⟨p3177, p3178⟩
  exact k _ B3179
theorem wq_X6_feed {post : Int32 → Tp → Prop} {s1 : Tp} {x1 : Int32} {x2 : Int32} {x3 : Int32} {x4 : Int32} {x5 : Int32} {N : Int} (h3180 : tz (N) s1) (k : ∀ (r : Int32) (u : Tp) (M : Int), tz (M) u → ((r).toInt = M ∧ M = N + 20 ∧ N + 20 ≤ 400) ∨ ((r).toInt = -1 ∧ M = N ∧ 400 < N + 20) → post r u) : wp_X6_feed post s1 x1 x2 x3 x4 x5 := by
  unfold wp_X6_feed
  have := h3180.1
  have := h3180.2
  refine ⟨fun c3181 => ?_, fun c3182 => ?_⟩
  · replace c3181 := q_le c3181
    rw [li_400] at c3181
    have e3183 := tq_addr li_20 (s1.1 0)
    try rw [Int.emod_eq_of_lt (show 0 ≤ (s1.1 0).toInt + 20 + 2147483648 by omega) (show (s1.1 0).toInt + 20 + 2147483648 < 4294967296 by omega)] at e3183
    have p3184 : N + 4 ≤ 400 := by omega
    refine wq_X5_addNumber h3180 p3184 (fun u_3 q3185 => ?_)
    have := q3185.1
    have := q3185.2
    have p3186 : N + 4 + 4 ≤ 400 := by omega
    refine wq_X5_addNumber q3185 p3186 (fun u_5 q3187 => ?_)
    have := q3187.1
    have := q3187.2
    have p3188 : N + 4 + 4 + 4 ≤ 400 := by omega
    refine wq_X5_addNumber q3187 p3188 (fun u_7 q3189 => ?_)
    have := q3189.1
    have := q3189.2
    have p3190 : N + 4 + 4 + 4 + 4 ≤ 400 := by omega
    refine wq_X5_addNumber q3189 p3190 (fun u_9 q3191 => ?_)
    have := q3191.1
    have := q3191.2
    have p3192 : N + 4 + 4 + 4 + 4 + 4 ≤ 400 := by omega
    refine wq_X5_addNumber q3191 p3192 (fun u_11 q3193 => ?_)
    have := q3193.1
    have := q3193.2
    have p3194 : ((u_11.1 0).toInt = N + 4 + 4 + 4 + 4 + 4 ∧ N + 4 + 4 + 4 + 4 + 4 = N + 20 ∧ N + 20 ≤ 400) ∨ ((u_11.1 0).toInt = -1 ∧ N + 4 + 4 + 4 + 4 + 4 = N ∧ 400 < N + 20) := by omega
    exact k _ _ (N + 4 + 4 + 4 + 4 + 4) q3193 p3194
  · replace c3182 := q_nle c3182
    rw [li_400] at c3182
    have e3195 := tq_addr li_20 (s1.1 0)
    try rw [Int.emod_eq_of_lt (show 0 ≤ (s1.1 0).toInt + 20 + 2147483648 by omega) (show (s1.1 0).toInt + 20 + 2147483648 < 4294967296 by omega)] at e3195
    have p3196 : ((-1 : Int32).toInt = N ∧ N = N + 20 ∧ N + 20 ≤ 400) ∨ ((-1 : Int32).toInt = -1 ∧ N = N ∧ 400 < N + 20) := by (have := li_m1; omega)
    exact k _ _ (N) h3180 p3196
theorem wq_X6_end {post : Int32 → Tp → Prop} {s1 : Tp} {x1 : Int32} {N : Int} (h3197 : tz (N) s1) (k : ∀ (r : Int32) (u : Tp) (M : Int), tz (M) u → ((r).toInt = (x1).toInt ∧ M = (x1).toInt ∧ 0 ≤ (x1).toInt ∧ (x1).toInt ≤ N) ∨ ((r).toInt = -1 ∧ M = N ∧ ((x1).toInt < 0 ∨ N < (x1).toInt)) → post r u) : wp_X6_end post s1 x1 := by
  unfold wp_X6_end
  have := h3197.1
  have := h3197.2
  refine ⟨fun c3198 => ?_, fun c3199 => ?_⟩
  · replace c3198 := q_lt c3198
    rw [li_0] at c3198
    have p3200 : ((-1 : Int32).toInt = (x1).toInt ∧ N = (x1).toInt ∧ 0 ≤ (x1).toInt ∧ (x1).toInt ≤ N) ∨ ((-1 : Int32).toInt = -1 ∧ N = N ∧ ((x1).toInt < 0 ∨ N < (x1).toInt)) := by (have := li_m1; omega)
    exact k _ _ (N) h3197 p3200
  · replace c3199 := q_nlt c3199
    rw [li_0] at c3199
    refine ⟨fun c3201 => ?_, fun c3202 => ?_⟩
    · replace c3201 := q_le c3201
      have p3203 : (x1).toInt = (x1).toInt := by omega
      have p3204 : 0 ≤ (x1).toInt ∧ (x1).toInt ≤ 400 := by omega
      have B3205 : tz ((x1).toInt) ((va_up s1.1 0 x1), s1.2) := ⟨p3203, p3204⟩
      have p3206 : ((x1).toInt = (x1).toInt ∧ (x1).toInt = (x1).toInt ∧ 0 ≤ (x1).toInt ∧ (x1).toInt ≤ N) ∨ ((x1).toInt = -1 ∧ (x1).toInt = N ∧ ((x1).toInt < 0 ∨ N < (x1).toInt)) := by omega
      exact k _ _ ((x1).toInt) B3205 p3206
    · replace c3202 := q_nle c3202
      have p3207 : ((-1 : Int32).toInt = (x1).toInt ∧ N = (x1).toInt ∧ 0 ≤ (x1).toInt ∧ (x1).toInt ≤ N) ∨ ((-1 : Int32).toInt = -1 ∧ N = N ∧ ((x1).toInt < 0 ∨ N < (x1).toInt)) := by (have := li_m1; omega)
      exact k _ _ (N) h3197 p3207
theorem wq_X6_isRowText_L15 {s1 : Tp} {s2 : Bd} {post : Int32 → Prop} {e44 : Int32 → Int32 → Int32 → Prop} {N : Int} (h3208 : tz (N) s1) (ke44 : ∀ (z1 : Int32) (z2 : Int32) (z3 : Int32), e44 z1 z2 z3) (k : ∀ (r : Int32), (r).toInt = 0 ∨ (r).toInt = 1 → post r) : ∀ (n : Nat) (z1 : Int32) (z2 : Int32) (z3 : Int32), 0 ≤ (z3).toInt ∧ ((z3).toInt ≤ (z2).toInt ∨ (z3).toInt = 0) ∧ (z2).toInt ≤ 10 → 10 - (z3).toInt < (n : Int) → wp_X6_isRowText_L15 s1 s2 post e44 n z1 z2 z3 := by
  have := h3208.1
  have := h3208.2
  intro n
  induction n with
  | zero =>
    intro z1 z2 z3 i3209 i3210
    exfalso
    omega
  | succ n ih =>
    intro z1 z2 z3 i3209 i3210
    unfold wp_X6_isRowText_L15
    refine ⟨fun c3211 => ?_, fun c3212 => ?_⟩
    · replace c3211 := q_le c3211
      exact ke44 _ _ _
    · replace c3212 := q_nle c3212
      refine wq_X5_byteAt h3208 (fun r_3 => ?_)
      refine wq_X6_isSign (fun r_5 q3213 => ?_)
      refine ⟨fun c3214 => ?_, fun c3215 => ?_⟩
      · replace c3214 := q_neq c3214
        rw [li_0] at c3214
        have e3216 := tq_addr li_1 z3
        try rw [Int.emod_eq_of_lt (show 0 ≤ (z3).toInt + 1 + 2147483648 by omega) (show (z3).toInt + 1 + 2147483648 < 4294967296 by omega)] at e3216
        have p3217 : 0 ≤ (z3 + 1).toInt ∧ ((z3 + 1).toInt ≤ (z2).toInt ∨ (z3 + 1).toInt = 0) ∧ (z2).toInt ≤ 10 := by omega
        have p3218 : 10 - (z3 + 1).toInt < ((n : Nat) : Int) := by (omega)
        exact ih _ _ _ p3217 p3218
      · replace c3215 := q_eq c3215
        rw [li_0] at c3215
        have p3219 : (0 : Int32).toInt = 0 ∨ (0 : Int32).toInt = 1 := by (have := li_0; omega)
        exact k _ p3219
theorem wq_X6_isRowText {post : Int32 → Prop} {s1 : Tp} {s2 : Bd} {x1 : Int32} {x2 : Int32} {N R W : Int} (h3220 : tz (N) s1) (h3221 : bi (R) (W) s2) (k : ∀ (r : Int32), (r).toInt = 0 ∨ (r).toInt = 1 → post r) : wp_X6_isRowText post s1 s2 x1 x2 := by
  unfold wp_X6_isRowText
  have := h3220.1
  have := h3220.2
  have := h3221.1
  have := h3221.2.1
  have := h3221.2.2.1
  have := h3221.2.2.2.1
  have := h3221.2.2.2.2.2.2.2.2.2
  refine ⟨fun c3222 => ?_, fun c3223 => ?_⟩
  · replace c3222 := q_le c3222
    have p3224 : 0 ≤ (0 : Int32).toInt ∧ ((0 : Int32).toInt ≤ (x2).toInt ∨ (0 : Int32).toInt = 0) ∧ (x2).toInt ≤ 10 := by (have := li_0; omega)
    obtain ⟨f3225, g3226⟩ := fu_e 50
    have p3227 : 10 - (0 : Int32).toInt < (f3225 : Int) := by (have := li_0; omega)
    refine ⟨f3225, wq_X6_isRowText_L15 h3220 (fun z1 z2 z3 => ?_) k f3225 _ _ _ p3224 p3227⟩
    have p3228 : (1 : Int32).toInt = 0 ∨ (1 : Int32).toInt = 1 := by (have := li_1; omega)
    exact k _ p3228
  · replace c3223 := q_nle c3223
    have p3229 : (0 : Int32).toInt = 0 ∨ (0 : Int32).toInt = 1 := by (have := li_0; omega)
    exact k _ p3229
theorem wq_X6_whyNotRow {post : Int32 → Prop} {s1 : Tp} {s2 : Bd} {x1 : Int32} {N R W : Int} (h3230 : tz (N) s1) (h3231 : bi (R) (W) s2) (k : ∀ (r : Int32), ((r).toInt = 0 ∧ 0 ≤ (x1).toInt ∧ (x1).toInt < R) ∨ (r).toInt = -1 ∨ (r).toInt = -2 → post r) : wp_X6_whyNotRow post s1 s2 x1 := by
  unfold wp_X6_whyNotRow
  have := h3230.1
  have := h3230.2
  have := h3231.1
  have := h3231.2.1
  have := h3231.2.2.1
  have := h3231.2.2.2.1
  have := h3231.2.2.2.2.2.2.2.2.2
  refine wq_X0_hasRow h3231 (fun r_1 q3232 => ?_)
  refine ⟨fun c3233 => ?_, fun c3234 => ?_⟩
  · replace c3233 := q_neq c3233
    rw [li_0] at c3233
    refine wq_X6_isRowText h3230 h3231 (fun r_4 q3235 => ?_)
    refine ⟨fun c3236 => ?_, fun c3237 => ?_⟩
    · replace c3236 := q_eq c3236
      rw [li_0] at c3236
      have p3238 : ((-2 : Int32).toInt = 0 ∧ 0 ≤ (x1).toInt ∧ (x1).toInt < R) ∨ (-2 : Int32).toInt = -1 ∨ (-2 : Int32).toInt = -2 := by (have := li_m2; omega)
      exact k _ p3238
    · replace c3237 := q_neq c3237
      rw [li_0] at c3237
      have p3239 : ((0 : Int32).toInt = 0 ∧ 0 ≤ (x1).toInt ∧ (x1).toInt < R) ∨ (0 : Int32).toInt = -1 ∨ (0 : Int32).toInt = -2 := by (have := li_0; omega)
      exact k _ p3239
  · replace c3234 := q_eq c3234
    rw [li_0] at c3234
    have p3240 : ((-1 : Int32).toInt = 0 ∧ 0 ≤ (x1).toInt ∧ (x1).toInt < R) ∨ (-1 : Int32).toInt = -1 ∨ (-1 : Int32).toInt = -2 := by (have := li_m1; omega)
    exact k _ p3240
theorem wq_X6_whyNotProgram {post : Int32 → Tp → Pg → Prop} {s1 : Tp} {s2 : Bd} {s5 : Pg} {N R W : Int} (h1 : tz N s1) (h2 : bi R W s2) (h5 : pz s5) (k : ∀ (r : Int32) (ua : Tp) (ub : Pg), tz N ua → pz ub → (r.toInt ≠ 0 ∨ (pg R ub ∧ 1 ≤ R)) → post r ua ub) : wp_X6_whyNotProgram post s1 s2 s5 := by
  unfold wp_X6_whyNotProgram
  have e0 : (0 : Int32).toInt = 0 := rfl
  have m1 : (-1 : Int32).toInt = -1 := rfl
  have m2 : (-2 : Int32).toInt = -2 := rfl
  refine wq_X0_isThere h2 (fun r hr => ⟨fun c => ?_, fun c => ?_⟩)
  · have := q_neq c
    refine wq_X4_readFrom h5 h1 h2 (fun ua ub ha hb => ?_)
    have b1 := hb.2.1
    have pzu : pz ua := ⟨ha.1, ha.2.1⟩
    have tzu : tz N ub := ⟨hb.1, hb.2.2⟩
    refine wq_X5_isSound (fun q hq => ⟨fun g => ?_, fun g => ?_⟩)
    · have g2 := q_eq g
      have s2 := tq_sub (-2) (ub.1 5)
      exact k _ _ _ tzu pzu (Or.inl (by omega))
    · exact k _ _ _ tzu pzu (Or.inr ⟨ha, by omega⟩)
  · exact k _ _ _ h1 h5 (Or.inl (by omega))
theorem wq_X6_doStep {post : Bd → Mo → Prop} {s1 : Tp} {s2 : Bd} {s4 : Mo} {s5 : Pg} {x1 : Int32} {N R W : Int} (h3241 : tz (N) s1) (h3242 : bi (R) (W) s2) (h3243 : mo s4) (h3244 : pg (R) s5) (h3245 : 1 ≤ R) (k : ∀ (ua : Bd) (ub : Mo), bi (R) (W) ua → mo ub → post ua ub) : wp_X6_doStep post s1 s2 s4 s5 x1 := by
  unfold wp_X6_doStep
  have := h3241.1
  have := h3241.2
  have := h3242.1
  have := h3242.2.1
  have := h3242.2.2.1
  have := h3242.2.2.2.1
  have := h3242.2.2.2.2.2.2.2.2.2
  have := h3243.1
  have := h3244.1
  refine wq_X4_oneOf h3244 (fun r_1 q3246 q3247 => ?_)
  refine wq_X4_twoOf h3244 (fun r_3 => ?_)
  refine wq_X4_kindOf h3244 (fun r_5 q3248 => ?_)
  refine ⟨fun c3249 => ?_, fun c3250 => ?_⟩
  · replace c3249 := q_eq c3249
    rw [li_6] at c3249
    refine wq_X4_quotedOf h3244 (fun r_8 => ?_)
    have p3251 : 0 ≤ (r_1).toInt ∧ (r_1).toInt < R := by omega
    refine wq_X0_wantSigns h3242 h3241 p3251 (fun r_10 u_11 q3252 => ?_)
    have := q3252.1
    have := q3252.2.1
    have := q3252.2.2.1
    have := q3252.2.2.2.2.2.2.2.2.2
    exact k _ _ q3252 h3243
  · replace c3250 := q_neq c3250
    rw [li_6] at c3250
    refine ⟨fun c3253 => ?_, fun c3254 => ?_⟩
    · replace c3253 := q_eq c3253
      rw [li_7] at c3253
      refine wq_X0_setLost h3242 (fun u_14 q3255 => ?_)
      have := q3255.1
      have := q3255.2.1
      have := q3255.2.2.1
      have := q3255.2.2.2.2.2.2.2.2.2
      exact k _ _ q3255 h3243
    · replace c3254 := q_neq c3254
      rw [li_7] at c3254
      refine ⟨fun c3256 => ?_, fun c3257 => ?_⟩
      · replace c3256 := q_eq c3256
        rw [li_8] at c3256
        refine wq_X4_quotedOf h3244 (fun r_16 => ?_)
        have p3258 : 1 ≤ R := by omega
        refine wq_X0_scrollUp h3242 h3241 p3258 (fun r_18 u_19 q3259 => ?_)
        have := q3259.1
        have := q3259.2.1
        have := q3259.2.2.1
        have := q3259.2.2.2.2.2.2.2.2.2
        exact k _ _ q3259 h3243
      · replace c3257 := q_neq c3257
        rw [li_8] at c3257
        refine ⟨fun c3260 => ?_, fun c3261 => ?_⟩
        · replace c3260 := q_eq c3260
          rw [li_9] at c3260
          have p3262 : 0 ≤ (r_1).toInt ∧ (r_1).toInt < R := by omega
          refine wq_X0_wantHome h3242 p3262 (fun u_22 q3263 => ?_)
          have := q3263.1
          have := q3263.2.1
          have := q3263.2.2.1
          have := q3263.2.2.2.2.2.2.2.2.2
          exact k _ _ q3263 h3243
        · replace c3261 := q_neq c3261
          rw [li_9] at c3261
          refine ⟨fun c3264 => ?_, fun c3265 => ?_⟩
          · replace c3264 := q_eq c3264
            rw [li_10] at c3264
            have p3266 : 0 ≤ (r_1).toInt ∧ (r_1).toInt ≤ 9999 := by omega
            refine wq_X2_turn h3243 h3242 p3266 (fun u_25a u_25b q3267 q3268 => ?_)
            have := q3267.1
            have := q3268.1
            have := q3268.2.1
            have := q3268.2.2.1
            have := q3268.2.2.2.2.2.2.2.2.2
            exact k _ _ q3268 q3267
          · replace c3265 := q_neq c3265
            rw [li_10] at c3265
            refine ⟨fun c3269 => ?_, fun c3270 => ?_⟩
            · replace c3269 := q_eq c3269
              rw [li_11] at c3269
              have p3271 : 0 ≤ ((9999 : Int32)).toInt ∧ ((9999 : Int32)).toInt ≤ 9999 := by (have := li_9999; omega)
              refine wq_X2_turn h3243 h3242 p3271 (fun u_28a u_28b q3272 q3273 => ?_)
              have := q3272.1
              have := q3273.1
              have := q3273.2.1
              have := q3273.2.2.1
              have := q3273.2.2.2.2.2.2.2.2.2
              exact k _ _ q3273 q3272
            · replace c3270 := q_neq c3270
              rw [li_11] at c3270
              exact k _ _ h3242 h3243

theorem wq_X6_doProgram_L9 {s1 : Tp} {post : Int32 → Bd → Mo → Pg → Prop} {e59 : Bd → Mo → Pg → Int32 → Prop} {N R W : Int} (h3274 : tz (N) s1) (h3275 : 1 ≤ R) (ke59 : ∀ (t2 : Bd) (t3 : Mo) (t4 : Pg) (z1 : Int32), bi (R) (W) t2 → mo t3 → pg (R) t4 → 0 ≤ (z1).toInt ∧ (z1).toInt ≤ 200 → e59 t2 t3 t4 z1) (k : ∀ (r : Int32) (ua : Bd) (ub : Mo) (uc : Pg), bi (R) (W) ua → mo ub → pg (R) uc → post r ua ub uc) : ∀ (n : Nat) (t2 : Bd) (t3 : Mo) (t4 : Pg) (z1 : Int32), bi (R) (W) t2 → mo t3 → pg (R) t4 → 0 ≤ (z1).toInt ∧ (z1).toInt ≤ 200 → 200 - (z1).toInt < (n : Int) → wp_X6_doProgram_L9 s1 post e59 n t2 t3 t4 z1 := by
  have := h3274.1
  have := h3274.2
  intro n
  induction n with
  | zero =>
    intro t2 t3 t4 z1 i3276 i3277 i3278 i3279 i3280
    have := i3276.1
    have := i3276.2.1
    have := i3276.2.2.1
    have := i3276.2.2.2.1
    have := i3276.2.2.2.2.2.2.2.2.2
    have := i3277.1
    have := i3278.1
    exfalso
    omega
  | succ n ih =>
    intro t2 t3 t4 z1 i3276 i3277 i3278 i3279 i3280
    unfold wp_X6_doProgram_L9
    have := i3276.1
    have := i3276.2.1
    have := i3276.2.2.1
    have := i3276.2.2.2.1
    have := i3276.2.2.2.2.2.2.2.2.2
    have := i3277.1
    have := i3278.1
    refine ⟨fun c3281 => ?_, fun c3282 => ?_⟩
    · replace c3281 := q_le c3281
      rw [li_200] at c3281
      have p3283 : 0 ≤ (z1).toInt ∧ (z1).toInt ≤ 200 := by omega
      exact ke59 _ _ _ _ i3276 i3277 i3278 p3283
    · replace c3282 := q_nle c3282
      rw [li_200] at c3282
      refine wq_X4_hasStep i3278 (fun r_4 q3284 => ?_)
      refine ⟨fun c3285 => ?_, fun c3286 => ?_⟩
      · replace c3285 := q_neq c3285
        rw [li_0] at c3285
        have p3287 : 1 ≤ R := by omega
        refine wq_X6_doStep h3274 i3276 i3277 i3278 p3287 (fun u_8a u_8b q3288 q3289 => ?_)
        have := q3288.1
        have := q3288.2.1
        have := q3288.2.2.1
        have := q3288.2.2.2.2.2.2.2.2.2
        have := q3289.1
        refine wq_X4_goOn i3278 (fun u_10 q3290 => ?_)
        have := q3290.1
        have e3291 := tq_addr li_1 z1
        try rw [Int.emod_eq_of_lt (show 0 ≤ (z1).toInt + 1 + 2147483648 by omega) (show (z1).toInt + 1 + 2147483648 < 4294967296 by omega)] at e3291
        have p3292 : 0 ≤ (z1 + 1).toInt ∧ (z1 + 1).toInt ≤ 200 := by omega
        have p3293 : 200 - (z1 + 1).toInt < ((n : Nat) : Int) := by (omega)
        exact ih _ _ _ _ q3288 q3289 q3290 p3292 p3293
      · replace c3286 := q_eq c3286
        rw [li_0] at c3286
        exact k _ _ _ _ i3276 i3277 i3278
theorem wq_X6_doProgram {post : Int32 → Bd → Mo → Pg → Prop} {s1 : Tp} {s2 : Bd} {s4 : Mo} {s5 : Pg} {N R W : Int} (h3294 : tz (N) s1) (h3295 : bi (R) (W) s2) (h3296 : mo s4) (h3297 : pg (R) s5) (h3298 : 1 ≤ R) (k : ∀ (r : Int32) (ua : Bd) (ub : Mo) (uc : Pg), bi (R) (W) ua → mo ub → pg (R) uc → post r ua ub uc) : wp_X6_doProgram post s1 s2 s4 s5 := by
  unfold wp_X6_doProgram
  have := h3294.1
  have := h3294.2
  have := h3295.1
  have := h3295.2.1
  have := h3295.2.2.1
  have := h3295.2.2.2.1
  have := h3295.2.2.2.2.2.2.2.2.2
  have := h3296.1
  have := h3297.1
  refine wq_X4_startDoing h3297 (fun u_2 q3299 => ?_)
  have := q3299.1
  have p3300 : 1 ≤ R := by omega
  have p3301 : 0 ≤ (0 : Int32).toInt ∧ (0 : Int32).toInt ≤ 200 := by (have := li_0; omega)
  obtain ⟨f3302, g3303⟩ := fu_e 300
  have p3304 : 200 - (0 : Int32).toInt < (f3302 : Int) := by (have := li_0; omega)
  refine ⟨f3302, wq_X6_doProgram_L9 h3294 p3300 (fun t2 t3 t4 z1 q3305 q3306 q3307 q3308 => ?_) k f3302 _ _ _ _ h3295 h3296 q3299 p3301 p3304⟩
  have := q3305.1
  have := q3305.2.1
  have := q3305.2.2.1
  have := q3305.2.2.2.2.2.2.2.2.2
  have := q3306.1
  have := q3307.1
  exact k _ _ _ _ q3305 q3306 q3307
theorem wq_X6_isShelf {post : Int32 → Prop} {x0 : Int32} (k : ∀ (r : Int32), ((r).toInt = 1 ∧ 0 ≤ (x0).toInt ∧ (x0).toInt < 2) ∨ ((r).toInt = 0 ∧ ((x0).toInt < 0 ∨ 2 ≤ (x0).toInt)) → post r) : wp_X6_isShelf post x0 := by
  unfold wp_X6_isShelf
  refine ⟨fun c3309 => ?_, fun c3310 => ?_⟩
  · replace c3309 := q_lt c3309
    rw [li_0] at c3309
    have p3311 : ((0 : Int32).toInt = 1 ∧ 0 ≤ (x0).toInt ∧ (x0).toInt < 2) ∨ ((0 : Int32).toInt = 0 ∧ ((x0).toInt < 0 ∨ 2 ≤ (x0).toInt)) := by (have := li_0; omega)
    exact k _ p3311
  · replace c3310 := q_nlt c3310
    rw [li_0] at c3310
    refine ⟨fun c3312 => ?_, fun c3313 => ?_⟩
    · replace c3312 := q_le c3312
      rw [li_2] at c3312
      have p3314 : ((0 : Int32).toInt = 1 ∧ 0 ≤ (x0).toInt ∧ (x0).toInt < 2) ∨ ((0 : Int32).toInt = 0 ∧ ((x0).toInt < 0 ∨ 2 ≤ (x0).toInt)) := by (have := li_0; omega)
      exact k _ p3314
    · replace c3313 := q_nle c3313
      rw [li_2] at c3313
      have p3315 : ((1 : Int32).toInt = 1 ∧ 0 ≤ (x0).toInt ∧ (x0).toInt < 2) ∨ ((1 : Int32).toInt = 0 ∧ ((x0).toInt < 0 ∨ 2 ≤ (x0).toInt)) := by (have := li_1; omega)
      exact k _ p3315
theorem wq_X6_cell {post : Int32 → Prop} {s2 : Bd} {x1 : Int32} {x2 : Int32} {R W : Int} (h3316 : bi (R) (W) s2) (k : ∀ (r : Int32), post r) : wp_X6_cell post s2 x1 x2 := by
  unfold wp_X6_cell
  have := h3316.1
  have := h3316.2.1
  have := h3316.2.2.1
  have := h3316.2.2.2.1
  have := h3316.2.2.2.2.2.2.2.2.2
  refine wq_X0_hasCell h3316 (fun r_1 q3317 => ?_)
  refine ⟨fun c3318 => ?_, fun c3319 => ?_⟩
  · replace c3318 := q_neq c3318
    rw [li_0] at c3318
    refine ⟨fun c3320 => ?_, fun c3321 => ?_⟩
    · replace c3320 := q_eq c3320
      rw [li_0] at c3320
      have v3322 : vp_in x1 40 := vi (by omega) (by omega)
      refine ⟨v3322, ?_⟩
      exact k _
    · replace c3321 := q_neq c3321
      rw [li_0] at c3321
      refine ⟨fun c3323 => ?_, fun c3324 => ?_⟩
      · replace c3323 := q_eq c3323
        rw [li_1] at c3323
        have v3325 : vp_in x1 40 := vi (by omega) (by omega)
        refine ⟨v3325, ?_⟩
        exact k _
      · replace c3324 := q_neq c3324
        rw [li_1] at c3324
        refine ⟨fun c3326 => ?_, fun c3327 => ?_⟩
        · replace c3326 := q_eq c3326
          rw [li_2] at c3326
          have v3328 : vp_in x1 40 := vi (by omega) (by omega)
          refine ⟨v3328, ?_⟩
          exact k _
        · replace c3327 := q_neq c3327
          rw [li_2] at c3327
          refine ⟨fun c3329 => ?_, fun c3330 => ?_⟩
          · replace c3329 := q_eq c3329
            rw [li_3] at c3329
            have v3331 : vp_in x1 40 := vi (by omega) (by omega)
            refine ⟨v3331, ?_⟩
            exact k _
          · replace c3330 := q_neq c3330
            rw [li_3] at c3330
            refine ⟨fun c3332 => ?_, fun c3333 => ?_⟩
            · replace c3332 := q_eq c3332
              rw [li_4] at c3332
              have p3334 : 0 ≤ (x1).toInt ∧ (x1).toInt < 40 := by omega
              refine wq_X0_leftOf h3316 p3334 (fun r_13 => ?_)
              exact k _
            · replace c3333 := q_neq c3333
              rw [li_4] at c3333
              refine ⟨fun c3335 => ?_, fun c3336 => ?_⟩
              · replace c3335 := q_eq c3335
                rw [li_5] at c3335
                have v3337 : vp_in x1 40 := vi (by omega) (by omega)
                refine ⟨v3337, ?_⟩
                exact k _
              · replace c3336 := q_neq c3336
                rw [li_5] at c3336
                refine ⟨fun c3338 => ?_, fun c3339 => ?_⟩
                · replace c3338 := q_eq c3338
                  rw [li_6] at c3338
                  have v3340 : vp_in x1 40 := vi (by omega) (by omega)
                  refine ⟨v3340, ?_⟩
                  exact k _
                · replace c3339 := q_neq c3339
                  rw [li_6] at c3339
                  refine ⟨fun c3341 => ?_, fun c3342 => ?_⟩
                  · replace c3341 := q_eq c3341
                    rw [li_7] at c3341
                    have v3343 : vp_in x1 40 := vi (by omega) (by omega)
                    refine ⟨v3343, ?_⟩
                    exact k _
                  · replace c3342 := q_neq c3342
                    rw [li_7] at c3342
                    refine ⟨fun c3344 => ?_, fun c3345 => ?_⟩
                    · replace c3344 := q_eq c3344
                      rw [li_8] at c3344
                      have p3346 : 0 ≤ (x1).toInt ∧ (x1).toInt < 40 := by omega
                      refine wq_X0_wornCount h3316 p3346 (fun r_22 => ?_)
                      exact k _
                    · replace c3345 := q_neq c3345
                      rw [li_8] at c3345
                      exact k _
  · replace c3319 := q_eq c3319
    rw [li_0] at c3319
    exact k _
theorem wq_X6_worn {post : Int64 → Prop} {s2 : Bd} {x1 : Int32} {R W : Int} (h3347 : bi (R) (W) s2) (k : ∀ (r : Int64), post r) : wp_X6_worn post s2 x1 := by
  unfold wp_X6_worn
  have := h3347.1
  have := h3347.2.1
  have := h3347.2.2.1
  have := h3347.2.2.2.1
  have := h3347.2.2.2.2.2.2.2.2.2
  refine wq_X0_hasCell h3347 (fun r_1 q3348 => ?_)
  refine ⟨fun c3349 => ?_, fun c3350 => ?_⟩
  · replace c3349 := q_eq c3349
    rw [li_0] at c3349
    exact k _
  · replace c3350 := q_neq c3350
    rw [li_0] at c3350
    have v3351 : vp_in x1 40 := vi (by omega) (by omega)
    refine ⟨v3351, ?_⟩
    exact k _
theorem wq_X6_drum {post : Int32 → Prop} {s2 : Bd} {x1 : Int32} {x2 : Int32} {R W : Int} (h3352 : bi (R) (W) s2) (k : ∀ (r : Int32), post r) : wp_X6_drum post s2 x1 x2 := by
  unfold wp_X6_drum
  have := h3352.1
  have := h3352.2.1
  have := h3352.2.2.1
  have := h3352.2.2.2.1
  have := h3352.2.2.2.2.2.2.2.2.2
  refine wq_X0_hasDrum h3352 (fun r_1 q3353 => ?_)
  refine ⟨fun c3354 => ?_, fun c3355 => ?_⟩
  · replace c3354 := q_neq c3354
    rw [li_0] at c3354
    refine ⟨fun c3356 => ?_, fun c3357 => ?_⟩
    · replace c3356 := q_eq c3356
      rw [li_0] at c3356
      have v3358 : vp_in x1 4 := vi (by omega) (by omega)
      refine ⟨v3358, ?_⟩
      exact k _
    · replace c3357 := q_neq c3357
      rw [li_0] at c3357
      refine ⟨fun c3359 => ?_, fun c3360 => ?_⟩
      · replace c3359 := q_eq c3359
        rw [li_1] at c3359
        refine wq_X0_flapsOn h3352 (fun r_7 q3361 q3362 => ?_)
        exact k _
      · replace c3360 := q_neq c3360
        rw [li_1] at c3360
        refine ⟨fun c3363 => ?_, fun c3364 => ?_⟩
        · replace c3363 := q_eq c3363
          rw [li_2] at c3363
          refine wq_X0_cellsWith h3352 (fun r_10 => ?_)
          exact k _
        · replace c3364 := q_neq c3364
          rw [li_2] at c3364
          refine ⟨fun c3365 => ?_, fun c3366 => ?_⟩
          · replace c3365 := q_eq c3365
            rw [li_3] at c3365
            refine wq_X0_unlikeSigns h3352 (fun r_13 => ?_)
            exact k _
          · replace c3366 := q_neq c3366
            rw [li_3] at c3366
            refine ⟨fun c3367 => ?_, fun c3368 => ?_⟩
            · replace c3367 := q_eq c3367
              rw [li_4] at c3367
              refine wq_X0_mostOfOneSign h3352 (fun r_16 => ?_)
              exact k _
            · replace c3368 := q_neq c3368
              rw [li_4] at c3368
              exact k _
  · replace c3355 := q_eq c3355
    rw [li_0] at c3355
    exact k _
theorem wq_X6_sign {post : Int32 → Prop} {s2 : Bd} {x1 : Int32} {x2 : Int32} {R W : Int} (h3369 : bi (R) (W) s2) (k : ∀ (r : Int32), post r) : wp_X6_sign post s2 x1 x2 := by
  unfold wp_X6_sign
  have := h3369.1
  have := h3369.2.1
  have := h3369.2.2.1
  have := h3369.2.2.2.1
  have := h3369.2.2.2.2.2.2.2.2.2
  refine wq_X0_signOf h3369 (fun r_1 => ?_)
  exact k _
theorem wq_X6_at {post : Int32 → Prop} {s2 : Bd} {x1 : Int32} {x2 : Int32} {x3 : Int32} {R W : Int} (h3370 : bi (R) (W) s2) (k : ∀ (r : Int32), post r) : wp_X6_at post s2 x1 x2 x3 := by
  unfold wp_X6_at
  have := h3370.1
  have := h3370.2.1
  have := h3370.2.2.1
  have := h3370.2.2.2.1
  have := h3370.2.2.2.2.2.2.2.2.2
  refine wq_X0_hasRow h3370 (fun r_1 q3371 => ?_)
  refine ⟨fun c3372 => ?_, fun c3373 => ?_⟩
  · replace c3372 := q_eq c3372
    rw [li_0] at c3372
    exact k _
  · replace c3373 := q_neq c3373
    rw [li_0] at c3373
    refine ⟨fun c3374 => ?_, fun c3375 => ?_⟩
    · replace c3374 := q_lt c3374
      rw [li_0] at c3374
      exact k _
    · replace c3375 := q_nlt c3375
      rw [li_0] at c3375
      refine ⟨fun c3376 => ?_, fun c3377 => ?_⟩
      · replace c3376 := q_lt c3376
        refine ⟨fun c3378 => ?_, fun c3379 => ?_⟩
        · replace c3378 := q_eq c3378
          rw [li_0] at c3378
          have := rw_l (a := x1) (b := (s2.1 1)) (R := R) (W := W) (by omega) (by omega) (by omega)
          have e3380 := tq_add (x1 * (s2.1 1)) x2
          try rw [Int.emod_eq_of_lt (show 0 ≤ (x1 * (s2.1 1)).toInt + (x2).toInt + 2147483648 by omega) (show (x1 * (s2.1 1)).toInt + (x2).toInt + 2147483648 < 4294967296 by omega)] at e3380
          have v3381 : vp_in ((x1 * (s2.1 1)) + x2) 40 := vi (by omega) (by omega)
          refine ⟨v3381, ?_⟩
          have p3382 : 0 ≤ ((x1 * (s2.1 1)) + x2).toInt ∧ ((x1 * (s2.1 1)) + x2).toInt < 40 := by omega
          refine wq_X0_signOn h3370 p3382 (fun r_8 => ?_)
          exact k _
        · replace c3379 := q_neq c3379
          rw [li_0] at c3379
          refine ⟨fun c3383 => ?_, fun c3384 => ?_⟩
          · replace c3383 := q_eq c3383
            rw [li_1] at c3383
            have := rw_l (a := x1) (b := (s2.1 1)) (R := R) (W := W) (by omega) (by omega) (by omega)
            have e3385 := tq_add (x1 * (s2.1 1)) x2
            try rw [Int.emod_eq_of_lt (show 0 ≤ (x1 * (s2.1 1)).toInt + (x2).toInt + 2147483648 by omega) (show (x1 * (s2.1 1)).toInt + (x2).toInt + 2147483648 < 4294967296 by omega)] at e3385
            have v3386 : vp_in ((x1 * (s2.1 1)) + x2) 40 := vi (by omega) (by omega)
            refine ⟨v3386, ?_⟩
            have p3387 : 0 ≤ ((x1 * (s2.1 1)) + x2).toInt ∧ ((x1 * (s2.1 1)) + x2).toInt < 40 := by omega
            refine wq_X0_signOn h3370 p3387 (fun r_12 => ?_)
            exact k _
          · replace c3384 := q_neq c3384
            rw [li_1] at c3384
            refine ⟨fun c3388 => ?_, fun c3389 => ?_⟩
            · replace c3388 := q_eq c3388
              rw [li_2] at c3388
              have := rw_l (a := x1) (b := (s2.1 1)) (R := R) (W := W) (by omega) (by omega) (by omega)
              have e3390 := tq_add (x1 * (s2.1 1)) x2
              try rw [Int.emod_eq_of_lt (show 0 ≤ (x1 * (s2.1 1)).toInt + (x2).toInt + 2147483648 by omega) (show (x1 * (s2.1 1)).toInt + (x2).toInt + 2147483648 < 4294967296 by omega)] at e3390
              have v3391 : vp_in ((x1 * (s2.1 1)) + x2) 40 := vi (by omega) (by omega)
              refine ⟨v3391, ?_⟩
              have p3392 : 0 ≤ ((x1 * (s2.1 1)) + x2).toInt ∧ ((x1 * (s2.1 1)) + x2).toInt < 40 := by omega
              refine wq_X0_signOn h3370 p3392 (fun r_16 => ?_)
              exact k _
            · replace c3389 := q_neq c3389
              rw [li_2] at c3389
              exact k _
      · replace c3377 := q_nlt c3377
        exact k _
theorem wq_X6_leastTicks {post : Int32 → Prop} {s2 : Bd} {R W : Int} (h3393 : bi (R) (W) s2) (k : ∀ (r : Int32), post r) : wp_X6_leastTicks post s2 := by
  unfold wp_X6_leastTicks
  have := h3393.1
  have := h3393.2.1
  have := h3393.2.2.1
  have := h3393.2.2.2.1
  have := h3393.2.2.2.2.2.2.2.2.2
  refine wq_X0_leftOfAll h3393 (fun r_1 => ?_)
  have e3394 := tq_ite (a := (1 : Int32)) (b := (s2.1 2)) (x := (s2.1 2)) (y := (1 : Int32))
  simp only [li_1] at e3394
  refine ⟨(z_ne (by have := li_0; omega)), ?_⟩
  refine wq_X0_mostLeft h3393 (fun r_4 => ?_)
  exact k _
theorem wq_X6_left {post : Int32 → Prop} {s2 : Bd} {x1 : Int32} {R W : Int} (h3395 : bi (R) (W) s2) (k : ∀ (r : Int32), post r) : wp_X6_left post s2 x1 := by
  unfold wp_X6_left
  have := h3395.1
  have := h3395.2.1
  have := h3395.2.2.1
  have := h3395.2.2.2.1
  have := h3395.2.2.2.2.2.2.2.2.2
  refine wq_X0_isThere h3395 (fun r_1 q3396 => ?_)
  refine ⟨fun c3397 => ?_, fun c3398 => ?_⟩
  · replace c3397 := q_neq c3397
    rw [li_0] at c3397
    refine ⟨fun c3399 => ?_, fun c3400 => ?_⟩
    · replace c3399 := q_eq c3399
      rw [li_0] at c3399
      refine wq_X0_leftOfAll h3395 (fun r_5 => ?_)
      exact k _
    · replace c3400 := q_neq c3400
      rw [li_0] at c3400
      refine ⟨fun c3401 => ?_, fun c3402 => ?_⟩
      · replace c3401 := q_eq c3401
        rw [li_1] at c3401
        refine wq_X0_mostLeft h3395 (fun r_8 => ?_)
        exact k _
      · replace c3402 := q_neq c3402
        rw [li_1] at c3402
        refine ⟨fun c3403 => ?_, fun c3404 => ?_⟩
        · replace c3403 := q_eq c3403
          rw [li_2] at c3403
          refine wq_X0_leftOfAll h3395 (fun r_11 => ?_)
          exact k _
        · replace c3404 := q_neq c3404
          rw [li_2] at c3404
          refine ⟨fun c3405 => ?_, fun c3406 => ?_⟩
          · replace c3405 := q_eq c3405
            rw [li_3] at c3405
            refine wq_X6_leastTicks h3395 (fun r_14 => ?_)
            exact k _
          · replace c3406 := q_neq c3406
            rw [li_3] at c3406
            exact k _
  · replace c3398 := q_eq c3398
    rw [li_0] at c3398
    exact k _

theorem wq_X6_total {post : Int32 → Prop} {s2 : Bd} {x1 : Int32} {R W : Int} (h3407 : bi (R) (W) s2) (k : ∀ (r : Int32), post r) : wp_X6_total post s2 x1 := by
  unfold wp_X6_total
  have := h3407.1
  have := h3407.2.1
  have := h3407.2.2.1
  have := h3407.2.2.2.1
  have := h3407.2.2.2.2.2.2.2.2.2
  refine wq_X0_isThere h3407 (fun r_1 q3408 => ?_)
  refine ⟨fun c3409 => ?_, fun c3410 => ?_⟩
  · replace c3409 := q_neq c3409
    rw [li_0] at c3409
    refine ⟨fun c3411 => ?_, fun c3412 => ?_⟩
    · replace c3411 := q_eq c3411
      rw [li_0] at c3411
      exact k _
    · replace c3412 := q_neq c3412
      rw [li_0] at c3412
      refine ⟨fun c3413 => ?_, fun c3414 => ?_⟩
      · replace c3413 := q_eq c3413
        rw [li_1] at c3413
        exact k _
      · replace c3414 := q_neq c3414
        rw [li_1] at c3414
        refine ⟨fun c3415 => ?_, fun c3416 => ?_⟩
        · replace c3415 := q_eq c3415
          rw [li_2] at c3415
          refine wq_X0_sumOf_8 h3407 (fun r_7 => ?_)
          exact k _
        · replace c3416 := q_neq c3416
          rw [li_2] at c3416
          refine ⟨fun c3417 => ?_, fun c3418 => ?_⟩
          · replace c3417 := q_eq c3417
            rw [li_3] at c3417
            refine wq_X0_sumOf_9 h3407 (fun r_10 => ?_)
            exact k _
          · replace c3418 := q_neq c3418
            rw [li_3] at c3418
            exact k _
  · replace c3410 := q_eq c3410
    rw [li_0] at c3410
    exact k _
theorem wq_X6_log {post : Int32 → Prop} {s2 : Bd} {x1 : Int32} {x2 : Int32} {R W : Int} (h3419 : bi (R) (W) s2) (k : ∀ (r : Int32), post r) : wp_X6_log post s2 x1 x2 := by
  unfold wp_X6_log
  have := h3419.1
  have := h3419.2.1
  have := h3419.2.2.1
  have := h3419.2.2.2.1
  have := h3419.2.2.2.2.2.2.2.2.2
  refine wq_X0_hasDrum h3419 (fun r_1 q3420 => ?_)
  refine ⟨fun c3421 => ?_, fun c3422 => ?_⟩
  · replace c3421 := q_neq c3421
    rw [li_0] at c3421
    refine ⟨fun c3423 => ?_, fun c3424 => ?_⟩
    · replace c3423 := q_eq c3423
      rw [li_0] at c3423
      refine wq_X0_journey h3419 (fun r_5 => ?_)
      exact k _
    · replace c3424 := q_neq c3424
      rw [li_0] at c3424
      refine ⟨fun c3425 => ?_, fun c3426 => ?_⟩
      · replace c3425 := q_eq c3425
        rw [li_1] at c3425
        refine wq_X0_logSize h3419 (fun r_8 => ?_)
        exact k _
      · replace c3426 := q_neq c3426
        rw [li_1] at c3426
        refine ⟨fun c3427 => ?_, fun c3428 => ?_⟩
        · replace c3427 := q_eq c3427
          rw [li_2] at c3427
          refine wq_X0_unlikeEntries h3419 (fun r_11 => ?_)
          exact k _
        · replace c3428 := q_neq c3428
          rw [li_2] at c3428
          exact k _
  · replace c3422 := q_eq c3422
    rw [li_0] at c3422
    exact k _
theorem wq_X6_often {post : Int32 → Prop} {s2 : Bd} {x1 : Int32} {x2 : Int32} {x3 : Int32} {R W : Int} (h3429 : bi (R) (W) s2) (k : ∀ (r : Int32), post r) : wp_X6_often post s2 x1 x2 x3 := by
  unfold wp_X6_often
  have := h3429.1
  have := h3429.2.1
  have := h3429.2.2.1
  have := h3429.2.2.2.1
  have := h3429.2.2.2.2.2.2.2.2.2
  refine wq_X0_hasDrum h3429 (fun r_1 q3430 => ?_)
  refine ⟨fun c3431 => ?_, fun c3432 => ?_⟩
  · replace c3431 := q_eq c3431
    rw [li_0] at c3431
    exact k _
  · replace c3432 := q_neq c3432
    rw [li_0] at c3432
    refine ⟨fun c3433 => ?_, fun c3434 => ?_⟩
    · replace c3433 := q_lt c3433
      rw [li_0] at c3433
      exact k _
    · replace c3434 := q_nlt c3434
      rw [li_0] at c3434
      refine wq_X0_flapsOn h3429 (fun r_5 q3435 q3436 => ?_)
      refine ⟨fun c3437 => ?_, fun c3438 => ?_⟩
      · replace c3437 := q_lt c3437
        refine wq_X0_entriesOf h3429 (fun r_8 => ?_)
        exact k _
      · replace c3438 := q_nlt c3438
        exact k _
theorem wq_X6_digest_L6 {s2 : Bd} {post : Int64 → Prop} {e124 : Int64 → Int32 → Prop} {R W : Int} (h3439 : bi (R) (W) s2) (ke124 : ∀ (w1 : Int64) (z3 : Int32), 0 ≤ (z3).toInt ∧ (z3).toInt ≤ R * W → e124 w1 z3) : ∀ (n : Nat) (w1 : Int64) (z3 : Int32), 0 ≤ (z3).toInt ∧ (z3).toInt ≤ R * W → R * W - (z3).toInt < (n : Int) → wp_X6_digest_L6 s2 post e124 n w1 z3 := by
  have := h3439.1
  have := h3439.2.1
  have := h3439.2.2.1
  have := h3439.2.2.2.1
  have := h3439.2.2.2.2.2.2.2.2.2
  intro n
  induction n with
  | zero =>
    intro w1 z3 i3440 i3441
    exfalso
    omega
  | succ n ih =>
    intro w1 z3 i3440 i3441
    unfold wp_X6_digest_L6
    refine wq_X0_cells h3439 (fun r_1 q3442 => ?_)
    refine ⟨fun c3443 => ?_, fun c3444 => ?_⟩
    · replace c3443 := q_le c3443
      have p3445 : 0 ≤ (z3).toInt ∧ (z3).toInt ≤ R * W := by omega
      exact ke124 _ _ p3445
    · replace c3444 := q_nle c3444
      have v3446 : vp_in z3 40 := vi (by omega) (by omega)
      refine ⟨v3446, ?_⟩
      refine ⟨v3446, ?_⟩
      refine ⟨v3446, ?_⟩
      refine ⟨v3446, ?_⟩
      refine ⟨v3446, ?_⟩
      refine ⟨v3446, ?_⟩
      have e3447 := tq_addr li_1 z3
      try rw [Int.emod_eq_of_lt (show 0 ≤ (z3).toInt + 1 + 2147483648 by omega) (show (z3).toInt + 1 + 2147483648 < 4294967296 by omega)] at e3447
      have p3448 : 0 ≤ (z3 + 1).toInt ∧ (z3 + 1).toInt ≤ R * W := by omega
      have p3449 : R * W - (z3 + 1).toInt < ((n : Nat) : Int) := by (omega)
      exact ih _ _ p3448 p3449
theorem wq_X6_digest {post : Int64 → Prop} {s2 : Bd} {R W : Int} (h3450 : bi (R) (W) s2) (k : ∀ (r : Int64), post r) : wp_X6_digest post s2 := by
  unfold wp_X6_digest
  have := h3450.1
  have := h3450.2.1
  have := h3450.2.2.1
  have := h3450.2.2.2.1
  have := h3450.2.2.2.2.2.2.2.2.2
  have p3451 : 0 ≤ (0 : Int32).toInt ∧ (0 : Int32).toInt ≤ R * W := by (have := li_0; omega)
  obtain ⟨f3452, g3453⟩ := fu_e 50
  have p3454 : R * W - (0 : Int32).toInt < (f3452 : Int) := by (have := li_0; omega)
  refine ⟨f3452, wq_X6_digest_L6 h3450 (fun w1 z3 q3455 => ?_) f3452 _ _ p3451 p3454⟩
  exact k _
theorem wq_X6_lacks {post : Int32 → Prop} {s2 : Bd} {x1 : Int32} {x2 : Int32} {R W : Int} (h3456 : bi (R) (W) s2) (k : ∀ (r : Int32), post r) : wp_X6_lacks post s2 x1 x2 := by
  unfold wp_X6_lacks
  have := h3456.1
  have := h3456.2.1
  have := h3456.2.2.1
  have := h3456.2.2.2.1
  have := h3456.2.2.2.2.2.2.2.2.2
  refine wq_X0_hasCell h3456 (fun r_1 q3457 => ?_)
  refine ⟨fun c3458 => ?_, fun c3459 => ?_⟩
  · replace c3458 := q_eq c3458
    rw [li_0] at c3458
    exact k _
  · replace c3459 := q_neq c3459
    rw [li_0] at c3459
    refine ⟨fun c3460 => ?_, fun c3461 => ?_⟩
    · replace c3460 := q_lt c3460
      rw [li_0] at c3460
      exact k _
    · replace c3461 := q_nlt c3461
      rw [li_0] at c3461
      refine ⟨fun c3462 => ?_, fun c3463 => ?_⟩
      · replace c3462 := q_le c3462
        rw [li_1] at c3462
        refine ⟨fun c3464 => ?_, fun c3465 => ?_⟩
        · replace c3464 := q_neq c3464
          rw [li_0] at c3464
          have v3466 : vp_in x1 40 := vi (by omega) (by omega)
          refine ⟨v3466, ?_⟩
          refine wq_X0_signsOfOthers h3456 (fun r_8 => ?_)
          exact k _
        · replace c3465 := q_eq c3465
          rw [li_0] at c3465
          have p3467 : 0 ≤ (x1).toInt ∧ (x1).toInt < 40 := by omega
          refine wq_X0_missedOfOwn h3456 p3467 (fun r_10 => ?_)
          exact k _
      · replace c3463 := q_nle c3463
        rw [li_1] at c3463
        exact k _
theorem wq_X6_isSuch {post : Int32 → Prop} {s2 : Bd} {x1 : Int32} {x2 : Int32} {R W : Int} (h3468 : bi (R) (W) s2) (h3469 : 0 ≤ (x1).toInt ∧ (x1).toInt < 40) (k : ∀ (r : Int32), (r).toInt = 0 ∨ (r).toInt = 1 → post r) : wp_X6_isSuch post s2 x1 x2 := by
  unfold wp_X6_isSuch
  have := h3468.1
  have := h3468.2.1
  have := h3468.2.2.1
  have := h3468.2.2.2.1
  have := h3468.2.2.2.2.2.2.2.2.2
  refine ⟨fun c3470 => ?_, fun c3471 => ?_⟩
  · replace c3470 := q_eq c3470
    rw [li_0] at c3470
    have p3472 : 0 ≤ (x1).toInt ∧ (x1).toInt < 40 := by omega
    refine wq_X0_leftOf h3468 p3472 (fun r_2 => ?_)
    refine ⟨fun c3473 => ?_, fun c3474 => ?_⟩
    · replace c3473 := q_le c3473
      rw [li_0] at c3473
      have p3475 : (0 : Int32).toInt = 0 ∨ (0 : Int32).toInt = 1 := by (have := li_0; omega)
      exact k _ p3475
    · replace c3474 := q_nle c3474
      rw [li_0] at c3474
      have p3476 : (1 : Int32).toInt = 0 ∨ (1 : Int32).toInt = 1 := by (have := li_1; omega)
      exact k _ p3476
  · replace c3471 := q_neq c3471
    rw [li_0] at c3471
    refine ⟨fun c3477 => ?_, fun c3478 => ?_⟩
    · replace c3477 := q_eq c3477
      rw [li_1] at c3477
      have v3479 : vp_in x1 40 := vi (by omega) (by omega)
      refine ⟨v3479, ?_⟩
      refine ⟨v3479, ?_⟩
      refine ⟨fun c3480 => ?_, fun c3481 => ?_⟩
      · replace c3480 := q_eq c3480
        have := ar_at (h3468.2.2.2.2.2.2.1) v3479
        have := ar_at (h3468.2.2.2.2.2.2.2.1) v3479
        have p3482 : (0 : Int32).toInt = 0 ∨ (0 : Int32).toInt = 1 := by (have := li_0; omega)
        exact k _ p3482
      · replace c3481 := q_neq c3481
        have := ar_at (h3468.2.2.2.2.2.2.1) v3479
        have := ar_at (h3468.2.2.2.2.2.2.2.1) v3479
        have p3483 : (1 : Int32).toInt = 0 ∨ (1 : Int32).toInt = 1 := by (have := li_1; omega)
        exact k _ p3483
    · replace c3478 := q_neq c3478
      rw [li_1] at c3478
      refine ⟨fun c3484 => ?_, fun c3485 => ?_⟩
      · replace c3484 := q_eq c3484
        rw [li_2] at c3484
        have p3486 : 0 ≤ (x1).toInt ∧ (x1).toInt < 40 := by omega
        refine wq_X0_showsWrong h3468 p3486 (fun r_10 q3487 => ?_)
        refine ⟨(nb_b (by omega)), ?_⟩
        have p3488 : (r_10).toInt = 0 ∨ (r_10).toInt = 1 := by omega
        exact k _ p3488
      · replace c3485 := q_neq c3485
        rw [li_2] at c3485
        refine ⟨fun c3489 => ?_, fun c3490 => ?_⟩
        · replace c3489 := q_eq c3489
          rw [li_3] at c3489
          have p3491 : (0 : Int32).toInt = 0 ∨ (0 : Int32).toInt = 1 := by (have := li_0; omega)
          exact k _ p3491
        · replace c3490 := q_neq c3490
          rw [li_3] at c3490
          refine ⟨fun c3492 => ?_, fun c3493 => ?_⟩
          · replace c3492 := q_eq c3492
            rw [li_4] at c3492
            have p3494 : 0 ≤ (x1).toInt ∧ (x1).toInt < 40 := by omega
            refine wq_X0_currentOf h3468 p3494 (fun r_15 => ?_)
            refine ⟨fun c3495 => ?_, fun c3496 => ?_⟩
            · replace c3495 := q_le c3495
              have p3497 : (0 : Int32).toInt = 0 ∨ (0 : Int32).toInt = 1 := by (have := li_0; omega)
              exact k _ p3497
            · replace c3496 := q_nle c3496
              have p3498 : (1 : Int32).toInt = 0 ∨ (1 : Int32).toInt = 1 := by (have := li_1; omega)
              exact k _ p3498
          · replace c3493 := q_neq c3493
            rw [li_4] at c3493
            have p3499 : (0 : Int32).toInt = 0 ∨ (0 : Int32).toInt = 1 := by (have := li_0; omega)
            exact k _ p3499
theorem wq_X6_which_L52 {s2 : Bd} {post : Int64 → Mo → Prop} {e87 : Mo → Int32 → Int64 → Int32 → Prop} {R W : Int} (h3500 : bi (R) (W) s2) (ke87 : ∀ (t2 : Mo) (z1 : Int32) (w2 : Int64) (z4 : Int32), mo t2 → 0 ≤ (z4).toInt ∧ (z4).toInt ≤ R * W → e87 t2 z1 w2 z4) : ∀ (n : Nat) (t2 : Mo) (z1 : Int32) (w2 : Int64) (z4 : Int32), mo t2 → 0 ≤ (z4).toInt ∧ (z4).toInt ≤ R * W → R * W - (z4).toInt < (n : Int) → wp_X6_which_L52 s2 post e87 n t2 z1 w2 z4 := by
  have := h3500.1
  have := h3500.2.1
  have := h3500.2.2.1
  have := h3500.2.2.2.1
  have := h3500.2.2.2.2.2.2.2.2.2
  intro n
  induction n with
  | zero =>
    intro t2 z1 w2 z4 i3501 i3502 i3503
    have := i3501.1
    exfalso
    omega
  | succ n ih =>
    intro t2 z1 w2 z4 i3501 i3502 i3503
    unfold wp_X6_which_L52
    have := i3501.1
    refine wq_X0_cells h3500 (fun r_7 q3504 => ?_)
    refine ⟨fun c3505 => ?_, fun c3506 => ?_⟩
    · replace c3505 := q_le c3505
      have p3507 : 0 ≤ (z4).toInt ∧ (z4).toInt ≤ R * W := by omega
      exact ke87 _ _ _ _ i3501 p3507
    · replace c3506 := q_nle c3506
      have p3508 : 0 ≤ (z4).toInt ∧ (z4).toInt < 40 := by omega
      refine wq_X6_isSuch h3500 p3508 (fun r_10 q3509 => ?_)
      refine ⟨fun c3510 => ?_, fun c3511 => ?_⟩
      · replace c3510 := q_eq c3510
        rw [li_0] at c3510
        have e3512 := tq_addr li_1 z4
        try rw [Int.emod_eq_of_lt (show 0 ≤ (z4).toInt + 1 + 2147483648 by omega) (show (z4).toInt + 1 + 2147483648 < 4294967296 by omega)] at e3512
        have p3513 : 0 ≤ (z4 + 1).toInt ∧ (z4 + 1).toInt ≤ R * W := by omega
        have p3514 : R * W - (z4 + 1).toInt < ((n : Nat) : Int) := by (omega)
        exact ih _ _ _ _ i3501 p3513 p3514
      · replace c3511 := q_neq c3511
        rw [li_0] at c3511
        have e3515 := tq_addr li_1 z4
        try rw [Int.emod_eq_of_lt (show 0 ≤ (z4).toInt + 1 + 2147483648 by omega) (show (z4).toInt + 1 + 2147483648 < 4294967296 by omega)] at e3515
        have p3516 : 0 ≤ (z4 + 1).toInt ∧ (z4 + 1).toInt ≤ R * W := by omega
        have p3517 : R * W - (z4 + 1).toInt < ((n : Nat) : Int) := by (omega)
        exact ih _ _ _ _ i3501 p3516 p3517
theorem wq_X6_which {post : Int64 → Mo → Prop} {s2 : Bd} {s4 : Mo} {x1 : Int32} {R W : Int} (h3518 : bi (R) (W) s2) (h3519 : mo s4) (k : ∀ (r : Int64) (u : Mo), mo u → post r u) : wp_X6_which post s2 s4 x1 := by
  unfold wp_X6_which
  have := h3518.1
  have := h3518.2.1
  have := h3518.2.2.1
  have := h3518.2.2.2.1
  have := h3518.2.2.2.2.2.2.2.2.2
  have := h3519.1
  refine wq_X0_isThere h3518 (fun r_1 q3520 => ?_)
  refine ⟨fun c3521 => ?_, fun c3522 => ?_⟩
  · replace c3521 := q_eq c3521
    rw [li_0] at c3521
    exact k _ _ h3519
  · replace c3522 := q_neq c3522
    rw [li_0] at c3522
    refine ⟨fun c3523 => ?_, fun c3524 => ?_⟩
    · replace c3523 := q_lt c3523
      rw [li_0] at c3523
      exact k _ _ h3519
    · replace c3524 := q_nlt c3524
      rw [li_0] at c3524
      refine ⟨fun c3525 => ?_, fun c3526 => ?_⟩
      · replace c3525 := q_le c3525
        rw [li_4] at c3525
        refine ⟨fun c3527 => ?_, fun c3528 => ?_⟩
        · replace c3527 := q_neq c3527
          rw [li_3] at c3527
          have p3529 : 0 ≤ (0 : Int32).toInt ∧ (0 : Int32).toInt ≤ R * W := by (have := li_0; omega)
          obtain ⟨f3530, g3531⟩ := fu_e 50
          have p3532 : R * W - (0 : Int32).toInt < (f3530 : Int) := by (have := li_0; omega)
          refine ⟨f3530, wq_X6_which_L52 h3518 (fun t2 z1 w2 z4 q3533 q3534 => ?_) f3530 _ _ _ _ h3519 p3529 p3532⟩
          have := q3533.1
          exact k _ _ q3533
        · replace c3528 := q_eq c3528
          rw [li_3] at c3528
          refine wq_X2_choose h3519 h3518 (fun u_14 q3535 => ?_)
          have := q3535.1
          refine wq_X2_chosenBits q3535 (fun r_15 => ?_)
          exact k _ _ q3535
      · replace c3526 := q_nle c3526
        rw [li_4] at c3526
        exact k _ _ h3519
theorem wq_X6_tryToSettle {post : Bd → Mo → Prop} {s2 : Bd} {s3 : Bd} {s4 : Mo} {R W R3 W3 : Int} (h3536 : bi (R) (W) s2) (h3537 : bi (R3) (W3) s3) (h3538 : mo s4) (k : ∀ (ua : Bd) (ub : Mo), bi (R) (W) ua → mo ub → post ua ub) : wp_X6_tryToSettle post s2 s3 s4 := by
  unfold wp_X6_tryToSettle
  have := h3536.1
  have := h3536.2.1
  have := h3536.2.2.1
  have := h3536.2.2.2.1
  have := h3536.2.2.2.2.2.2.2.2.2
  have := h3537.1
  have := h3537.2.1
  have := h3537.2.2.1
  have := h3537.2.2.2.1
  have := h3537.2.2.2.2.2.2.2.2.2
  have := h3538.1
  refine wq_X0_copyAllButLog h3537 h3536 (fun u_2 q3539 q3540 => ?_)
  have := q3539.1
  have := q3539.2.1
  have := q3539.2.2.1
  have := q3539.2.2.2.2.2.2.2.2.2
  have p3541 : 0 ≤ ((9999 : Int32)).toInt ∧ ((9999 : Int32)).toInt ≤ 9999 := by (have := li_9999; omega)
  refine wq_X2_turn h3538 q3539 p3541 (fun u_4a u_4b q3542 q3543 => ?_)
  have := q3542.1
  have := q3543.1
  have := q3543.2.1
  have := q3543.2.2.1
  have := q3543.2.2.2.2.2.2.2.2.2
  exact k _ _ q3543 q3542

theorem wq_X6_when {post : Int32 → Bd → Mo → Prop} {s2 : Bd} {s3 : Bd} {s4 : Mo} {x1 : Int32} {R W R3 W3 : Int} (h3544 : bi (R) (W) s2) (h3545 : bi (R3) (W3) s3) (h3546 : mo s4) (k : ∀ (r : Int32) (ua : Bd) (ub : Mo) (R4 W4 : Int), bi (R4) (W4) ua → mo ub → post r ua ub) : wp_X6_when post s2 s3 s4 x1 := by
  unfold wp_X6_when
  have := h3544.1
  have := h3544.2.1
  have := h3544.2.2.1
  have := h3544.2.2.2.1
  have := h3544.2.2.2.2.2.2.2.2.2
  have := h3545.1
  have := h3545.2.1
  have := h3545.2.2.1
  have := h3545.2.2.2.1
  have := h3545.2.2.2.2.2.2.2.2.2
  have := h3546.1
  refine wq_X0_isThere h3544 (fun r_1 q3547 => ?_)
  refine ⟨fun c3548 => ?_, fun c3549 => ?_⟩
  · replace c3548 := q_eq c3548
    rw [li_0] at c3548
    exact k _ _ _ (R3) (W3) h3545 h3546
  · replace c3549 := q_neq c3549
    rw [li_0] at c3549
    refine ⟨fun c3550 => ?_, fun c3551 => ?_⟩
    · replace c3550 := q_lt c3550
      rw [li_0] at c3550
      exact k _ _ _ (R3) (W3) h3545 h3546
    · replace c3551 := q_nlt c3551
      rw [li_0] at c3551
      refine ⟨fun c3552 => ?_, fun c3553 => ?_⟩
      · replace c3552 := q_le c3552
        rw [li_5] at c3552
        refine wq_X6_tryToSettle h3544 h3545 h3546 (fun u_7a u_7b q3554 q3555 => ?_)
        have := q3554.1
        have := q3554.2.1
        have := q3554.2.2.1
        have := q3554.2.2.2.2.2.2.2.2.2
        have := q3555.1
        refine ⟨fun c3556 => ?_, fun c3557 => ?_⟩
        · replace c3556 := q_eq c3556
          rw [li_0] at c3556
          exact k _ _ _ (R) (W) q3554 q3555
        · replace c3557 := q_neq c3557
          rw [li_0] at c3557
          refine ⟨fun c3558 => ?_, fun c3559 => ?_⟩
          · replace c3558 := q_eq c3558
            rw [li_1] at c3558
            exact k _ _ _ (R) (W) q3554 q3555
          · replace c3559 := q_neq c3559
            rw [li_1] at c3559
            refine ⟨fun c3560 => ?_, fun c3561 => ?_⟩
            · replace c3560 := q_eq c3560
              rw [li_2] at c3560
              exact k _ _ _ (R) (W) q3554 q3555
            · replace c3561 := q_neq c3561
              rw [li_2] at c3561
              refine ⟨fun c3562 => ?_, fun c3563 => ?_⟩
              · replace c3562 := q_eq c3562
                rw [li_3] at c3562
                exact k _ _ _ (R) (W) q3554 q3555
              · replace c3563 := q_neq c3563
                rw [li_3] at c3563
                refine ⟨fun c3564 => ?_, fun c3565 => ?_⟩
                · replace c3564 := q_eq c3564
                  rw [li_4] at c3564
                  refine wq_X0_wrongCount q3554 (fun r_13 => ?_)
                  exact k _ _ _ (R) (W) q3554 q3555
                · replace c3565 := q_neq c3565
                  rw [li_4] at c3565
                  refine ⟨fun c3566 => ?_, fun c3567 => ?_⟩
                  · replace c3566 := q_eq c3566
                    rw [li_5] at c3566
                    exact k _ _ _ (R) (W) q3554 q3555
                  · replace c3567 := q_neq c3567
                    rw [li_5] at c3567
                    exact k _ _ _ (R) (W) q3554 q3555
      · replace c3553 := q_nle c3553
        rw [li_5] at c3553
        exact k _ _ _ (R3) (W3) h3545 h3546
theorem wq_X6_loudest {post : Int32 → Bd → Mo → Prop} {s2 : Bd} {s3 : Bd} {s4 : Mo} {x1 : Int32} {R W R3 W3 : Int} (h3568 : bi (R) (W) s2) (h3569 : bi (R3) (W3) s3) (h3570 : mo s4) (k : ∀ (r : Int32) (ua : Bd) (ub : Mo) (R4 W4 : Int), bi (R4) (W4) ua → mo ub → post r ua ub) : wp_X6_loudest post s2 s3 s4 x1 := by
  unfold wp_X6_loudest
  have := h3568.1
  have := h3568.2.1
  have := h3568.2.2.1
  have := h3568.2.2.2.1
  have := h3568.2.2.2.2.2.2.2.2.2
  have := h3569.1
  have := h3569.2.1
  have := h3569.2.2.1
  have := h3569.2.2.2.1
  have := h3569.2.2.2.2.2.2.2.2.2
  have := h3570.1
  refine wq_X0_isThere h3568 (fun r_1 q3571 => ?_)
  refine ⟨fun c3572 => ?_, fun c3573 => ?_⟩
  · replace c3572 := q_eq c3572
    rw [li_0] at c3572
    exact k _ _ _ (R3) (W3) h3569 h3570
  · replace c3573 := q_neq c3573
    rw [li_0] at c3573
    refine ⟨fun c3574 => ?_, fun c3575 => ?_⟩
    · replace c3574 := q_lt c3574
      rw [li_0] at c3574
      exact k _ _ _ (R3) (W3) h3569 h3570
    · replace c3575 := q_nlt c3575
      rw [li_0] at c3575
      refine ⟨fun c3576 => ?_, fun c3577 => ?_⟩
      · replace c3576 := q_le c3576
        rw [li_1] at c3576
        refine wq_X6_tryToSettle h3568 h3569 h3570 (fun u_7a u_7b q3578 q3579 => ?_)
        have := q3578.1
        have := q3578.2.1
        have := q3578.2.2.1
        have := q3578.2.2.2.2.2.2.2.2.2
        have := q3579.1
        refine ⟨fun c3580 => ?_, fun c3581 => ?_⟩
        · replace c3580 := q_neq c3580
          rw [li_0] at c3580
          refine ⟨fun c3582 => ?_, fun c3583 => ?_⟩
          · replace c3582 := q_neq c3582
            rw [li_0] at c3582
            exact k _ _ _ (R) (W) q3578 q3579
          · replace c3583 := q_eq c3583
            rw [li_0] at c3583
            exact k _ _ _ (R) (W) q3578 q3579
        · replace c3581 := q_eq c3581
          rw [li_0] at c3581
          exact k _ _ _ (R) (W) q3578 q3579
      · replace c3577 := q_nle c3577
        rw [li_1] at c3577
        exact k _ _ _ (R3) (W3) h3569 h3570
theorem wq_X6_rests_L26 {s2 : Bd} {post : Int32 → Bd → Mo → Prop} {e77 : Bd → Mo → Int32 → Int32 → Prop} {R W : Int} (ke77 : ∀ (t2 : Bd) (t3 : Mo) (z1 : Int32) (z2 : Int32), bi (R) (W) t2 → mo t3 → 0 ≤ (z1).toInt ∧ (z1).toInt < 40 → 0 ≤ (z2).toInt ∧ (z2).toInt ≤ 10000 → e77 t2 t3 z1 z2) (k : ∀ (r : Int32) (ua : Bd) (ub : Mo) (R4 W4 : Int), bi (R4) (W4) ua → mo ub → post r ua ub) : ∀ (n : Nat) (t2 : Bd) (t3 : Mo) (z1 : Int32) (z2 : Int32), bi (R) (W) t2 → mo t3 → 0 ≤ (z1).toInt ∧ (z1).toInt < 40 → 0 ≤ (z2).toInt ∧ (z2).toInt ≤ 10000 → 10000 - (z2).toInt < (n : Int) → wp_X6_rests_L26 s2 post e77 n t2 t3 z1 z2 := by
  intro n
  induction n with
  | zero =>
    intro t2 t3 z1 z2 i3584 i3585 i3586 i3587 i3588
    have := i3584.1
    have := i3584.2.1
    have := i3584.2.2.1
    have := i3584.2.2.2.1
    have := i3584.2.2.2.2.2.2.2.2.2
    have := i3585.1
    exfalso
    omega
  | succ n ih =>
    intro t2 t3 z1 z2 i3584 i3585 i3586 i3587 i3588
    unfold wp_X6_rests_L26
    have := i3584.1
    have := i3584.2.1
    have := i3584.2.2.1
    have := i3584.2.2.2.1
    have := i3584.2.2.2.2.2.2.2.2.2
    have := i3585.1
    refine ⟨fun c3589 => ?_, fun c3590 => ?_⟩
    · replace c3589 := q_lt c3589
      rw [li_9999] at c3589
      have p3591 : 0 ≤ (z1).toInt ∧ (z1).toInt < 40 := by omega
      have p3592 : 0 ≤ (z2).toInt ∧ (z2).toInt ≤ 10000 := by omega
      exact ke77 _ _ _ _ i3584 i3585 p3591 p3592
    · replace c3590 := q_nlt c3590
      rw [li_9999] at c3590
      have p3593 : 0 ≤ (z1).toInt ∧ (z1).toInt < 40 := by omega
      refine wq_X0_leftOf i3584 p3593 (fun r_7 => ?_)
      refine ⟨fun c3594 => ?_, fun c3595 => ?_⟩
      · replace c3594 := q_neq c3594
        rw [li_0] at c3594
        have p3596 : 0 ≤ ((1 : Int32)).toInt ∧ ((1 : Int32)).toInt ≤ 9999 := by (have := li_1; omega)
        refine wq_X2_turn i3585 i3584 p3596 (fun u_11a u_11b q3597 q3598 => ?_)
        have := q3597.1
        have := q3598.1
        have := q3598.2.1
        have := q3598.2.2.1
        have := q3598.2.2.2.2.2.2.2.2.2
        refine ⟨fun c3599 => ?_, fun c3600 => ?_⟩
        · replace c3599 := q_neq c3599
          rw [li_0] at c3599
          have p3601 : 0 ≤ (z1).toInt ∧ (z1).toInt < 40 := by omega
          have e3602 := tq_addr li_1 z2
          try rw [Int.emod_eq_of_lt (show 0 ≤ (z2).toInt + 1 + 2147483648 by omega) (show (z2).toInt + 1 + 2147483648 < 4294967296 by omega)] at e3602
          have p3603 : 0 ≤ (z2 + 1).toInt ∧ (z2 + 1).toInt ≤ 10000 := by omega
          have p3604 : 10000 - (z2 + 1).toInt < ((n : Nat) : Int) := by (omega)
          exact ih _ _ _ _ q3598 q3597 p3601 p3603 p3604
        · replace c3600 := q_eq c3600
          rw [li_0] at c3600
          exact k _ _ _ (R) (W) q3598 q3597
      · replace c3595 := q_eq c3595
        rw [li_0] at c3595
        exact k _ _ _ (R) (W) i3584 i3585
theorem wq_X6_rests {post : Int32 → Bd → Mo → Prop} {s2 : Bd} {s3 : Bd} {s4 : Mo} {x1 : Int32} {R W R3 W3 : Int} (h3605 : bi (R) (W) s2) (h3606 : bi (R3) (W3) s3) (h3607 : mo s4) (k : ∀ (r : Int32) (ua : Bd) (ub : Mo) (R4 W4 : Int), bi (R4) (W4) ua → mo ub → post r ua ub) : wp_X6_rests post s2 s3 s4 x1 := by
  unfold wp_X6_rests
  have := h3605.1
  have := h3605.2.1
  have := h3605.2.2.1
  have := h3605.2.2.2.1
  have := h3605.2.2.2.2.2.2.2.2.2
  have := h3606.1
  have := h3606.2.1
  have := h3606.2.2.1
  have := h3606.2.2.2.1
  have := h3606.2.2.2.2.2.2.2.2.2
  have := h3607.1
  refine wq_X0_hasCell h3605 (fun r_1 q3608 => ?_)
  refine ⟨fun c3609 => ?_, fun c3610 => ?_⟩
  · replace c3609 := q_neq c3609
    rw [li_0] at c3609
    refine wq_X0_copyAllButLog h3606 h3605 (fun u_5 q3611 q3612 => ?_)
    have := q3611.1
    have := q3611.2.1
    have := q3611.2.2.1
    have := q3611.2.2.2.2.2.2.2.2.2
    have p3613 : 0 ≤ (x1).toInt ∧ (x1).toInt < 40 := by omega
    have p3614 : 0 ≤ (0 : Int32).toInt ∧ (0 : Int32).toInt ≤ 10000 := by (have := li_0; omega)
    obtain ⟨f3615, g3616⟩ := fu_e 10001
    have p3617 : 10000 - (0 : Int32).toInt < (f3615 : Int) := by (have := li_0; omega)
    refine ⟨f3615, wq_X6_rests_L26 (fun t2 t3 z1 z2 q3618 q3619 q3620 q3621 => ?_) k f3615 _ _ _ _ q3611 h3607 p3613 p3614 p3617⟩
    have := q3618.1
    have := q3618.2.1
    have := q3618.2.2.1
    have := q3618.2.2.2.2.2.2.2.2.2
    have := q3619.1
    exact k _ _ _ (R) (W) q3618 q3619
  · replace c3610 := q_eq c3610
    rw [li_0] at c3610
    exact k _ _ _ (R3) (W3) h3606 h3607
theorem wq_X6_cost {post : Int32 → Prop} {s1 : Tp} {s2 : Bd} {x1 : Int32} {N R W : Int} (h3622 : tz (N) s1) (h3623 : bi (R) (W) s2) (k : ∀ (r : Int32), post r) : wp_X6_cost post s1 s2 x1 := by
  unfold wp_X6_cost
  have := h3622.1
  have := h3622.2
  have := h3623.1
  have := h3623.2.1
  have := h3623.2.2.1
  have := h3623.2.2.2.1
  have := h3623.2.2.2.2.2.2.2.2.2
  refine wq_X6_whyNotRow h3622 h3623 (fun r_1 q3624 => ?_)
  refine ⟨fun c3625 => ?_, fun c3626 => ?_⟩
  · replace c3625 := q_neq c3625
    rw [li_0] at c3625
    exact k _
  · replace c3626 := q_eq c3626
    rw [li_0] at c3626
    have p3627 : 0 ≤ (x1).toInt ∧ (x1).toInt < R := by omega
    refine wq_X0_costOf h3623 h3622 p3627 (fun r_4 => ?_)
    exact k _
theorem wq_X6_best_L39 {s1 : Tp} {s2 : Bd} {post : Int32 → Prop} {e187 : Int32 → Int32 → Int32 → Int32 → Int32 → Int32 → Int32 → Int32 → Prop} {N R W : Int} (h3628 : tz (N) s1) (h3629 : bi (R) (W) s2) (ke187 : ∀ (z1 : Int32) (z2 : Int32) (z3 : Int32) (z4 : Int32) (z5 : Int32) (z6 : Int32) (z7 : Int32) (z8 : Int32), 0 ≤ (z1).toInt ∧ (z1).toInt < R → 0 ≤ (z4).toInt ∧ (z4).toInt ≤ (z8).toInt ∧ (z8).toInt ≤ N + 1 → e187 z1 z2 z3 z4 z5 z6 z7 z8) (k : ∀ (r : Int32), post r) : ∀ (n : Nat) (z1 : Int32) (z2 : Int32) (z3 : Int32) (z4 : Int32) (z5 : Int32) (z6 : Int32) (z7 : Int32) (z8 : Int32), 0 ≤ (z1).toInt ∧ (z1).toInt < R → 0 ≤ (z4).toInt ∧ (z4).toInt ≤ (z8).toInt ∧ (z8).toInt ≤ N + 1 → N + 1 - (z8).toInt < (n : Int) → wp_X6_best_L39 s1 s2 post e187 n z1 z2 z3 z4 z5 z6 z7 z8 := by
  have := h3628.1
  have := h3628.2
  have := h3629.1
  have := h3629.2.1
  have := h3629.2.2.1
  have := h3629.2.2.2.1
  have := h3629.2.2.2.2.2.2.2.2.2
  intro n
  induction n with
  | zero =>
    intro z1 z2 z3 z4 z5 z6 z7 z8 i3630 i3631 i3632
    exfalso
    omega
  | succ n ih =>
    intro z1 z2 z3 z4 z5 z6 z7 z8 i3630 i3631 i3632
    unfold wp_X6_best_L39
    refine ⟨fun c3633 => ?_, fun c3634 => ?_⟩
    · replace c3633 := q_lt c3633
      have p3635 : 0 ≤ (z1).toInt ∧ (z1).toInt < R := by omega
      have p3636 : 0 ≤ (z4).toInt ∧ (z4).toInt ≤ (z8).toInt ∧ (z8).toInt ≤ N + 1 := by omega
      exact ke187 _ _ _ _ _ _ _ _ p3635 p3636
    · replace c3634 := q_nlt c3634
      refine ⟨fun c3637 => ?_, fun c3638 => ?_⟩
      · replace c3637 := q_eq c3637
        refine wq_X6_isRowText h3628 h3629 (fun r_8 q3639 => ?_)
        refine ⟨fun c3640 => ?_, fun c3641 => ?_⟩
        · replace c3640 := q_neq c3640
          rw [li_0] at c3640
          have p3642 : 0 ≤ (z1).toInt ∧ (z1).toInt < R := by omega
          refine wq_X0_costOf h3629 h3628 p3642 (fun r_11 => ?_)
          have p3643 : 0 ≤ (z1).toInt ∧ (z1).toInt < R := by omega
          refine wq_X0_missesOf h3629 h3628 p3643 (fun r_13 => ?_)
          refine ⟨fun c3644 => ?_, fun c3645 => ?_⟩
          · replace c3644 := q_eq c3644
            rw [li_0] at c3644
            have p3646 : 0 ≤ (z1).toInt ∧ (z1).toInt < R := by omega
            have e3647 := tq_addr li_1 z8
            try rw [Int.emod_eq_of_lt (show 0 ≤ (z8).toInt + 1 + 2147483648 by omega) (show (z8).toInt + 1 + 2147483648 < 4294967296 by omega)] at e3647
            have p3648 : 0 ≤ (z8 + 1).toInt ∧ (z8 + 1).toInt ≤ (z8 + 1).toInt ∧ (z8 + 1).toInt ≤ N + 1 := by omega
            have p3649 : N + 1 - (z8 + 1).toInt < ((n : Nat) : Int) := by (omega)
            exact ih _ _ _ _ _ _ _ _ p3646 p3648 p3649
          · replace c3645 := q_neq c3645
            rw [li_0] at c3645
            refine ⟨fun c3650 => ?_, fun c3651 => ?_⟩
            · replace c3650 := q_lt c3650
              have p3652 : 0 ≤ (z1).toInt ∧ (z1).toInt < R := by omega
              have e3653 := tq_addr li_1 z8
              try rw [Int.emod_eq_of_lt (show 0 ≤ (z8).toInt + 1 + 2147483648 by omega) (show (z8).toInt + 1 + 2147483648 < 4294967296 by omega)] at e3653
              have p3654 : 0 ≤ (z8 + 1).toInt ∧ (z8 + 1).toInt ≤ (z8 + 1).toInt ∧ (z8 + 1).toInt ≤ N + 1 := by omega
              have p3655 : N + 1 - (z8 + 1).toInt < ((n : Nat) : Int) := by (omega)
              exact ih _ _ _ _ _ _ _ _ p3652 p3654 p3655
            · replace c3651 := q_nlt c3651
              refine ⟨fun c3656 => ?_, fun c3657 => ?_⟩
              · replace c3656 := q_neq c3656
                have p3658 : 0 ≤ (z1).toInt ∧ (z1).toInt < R := by omega
                have e3659 := tq_addr li_1 z8
                try rw [Int.emod_eq_of_lt (show 0 ≤ (z8).toInt + 1 + 2147483648 by omega) (show (z8).toInt + 1 + 2147483648 < 4294967296 by omega)] at e3659
                have p3660 : 0 ≤ (z8 + 1).toInt ∧ (z8 + 1).toInt ≤ (z8 + 1).toInt ∧ (z8 + 1).toInt ≤ N + 1 := by omega
                have p3661 : N + 1 - (z8 + 1).toInt < ((n : Nat) : Int) := by (omega)
                exact ih _ _ _ _ _ _ _ _ p3658 p3660 p3661
              · replace c3657 := q_eq c3657
                refine ⟨fun c3662 => ?_, fun c3663 => ?_⟩
                · replace c3662 := q_le c3662
                  have p3664 : 0 ≤ (z1).toInt ∧ (z1).toInt < R := by omega
                  have e3665 := tq_addr li_1 z8
                  try rw [Int.emod_eq_of_lt (show 0 ≤ (z8).toInt + 1 + 2147483648 by omega) (show (z8).toInt + 1 + 2147483648 < 4294967296 by omega)] at e3665
                  have p3666 : 0 ≤ (z8 + 1).toInt ∧ (z8 + 1).toInt ≤ (z8 + 1).toInt ∧ (z8 + 1).toInt ≤ N + 1 := by omega
                  have p3667 : N + 1 - (z8 + 1).toInt < ((n : Nat) : Int) := by (omega)
                  exact ih _ _ _ _ _ _ _ _ p3664 p3666 p3667
                · replace c3663 := q_nle c3663
                  have p3668 : 0 ≤ (z1).toInt ∧ (z1).toInt < R := by omega
                  have e3669 := tq_addr li_1 z8
                  try rw [Int.emod_eq_of_lt (show 0 ≤ (z8).toInt + 1 + 2147483648 by omega) (show (z8).toInt + 1 + 2147483648 < 4294967296 by omega)] at e3669
                  have p3670 : 0 ≤ (z8 + 1).toInt ∧ (z8 + 1).toInt ≤ (z8 + 1).toInt ∧ (z8 + 1).toInt ≤ N + 1 := by omega
                  have p3671 : N + 1 - (z8 + 1).toInt < ((n : Nat) : Int) := by (omega)
                  exact ih _ _ _ _ _ _ _ _ p3668 p3670 p3671
        · replace c3641 := q_eq c3641
          rw [li_0] at c3641
          exact k _
      · replace c3638 := q_neq c3638
        refine wq_X5_byteAt h3628 (fun r_19 => ?_)
        refine ⟨fun c3672 => ?_, fun c3673 => ?_⟩
        · replace c3672 := q_neq c3672
          rw [li_47] at c3672
          have p3674 : 0 ≤ (z1).toInt ∧ (z1).toInt < R := by omega
          have e3675 := tq_addr li_1 z8
          try rw [Int.emod_eq_of_lt (show 0 ≤ (z8).toInt + 1 + 2147483648 by omega) (show (z8).toInt + 1 + 2147483648 < 4294967296 by omega)] at e3675
          have p3676 : 0 ≤ (z4).toInt ∧ (z4).toInt ≤ (z8 + 1).toInt ∧ (z8 + 1).toInt ≤ N + 1 := by omega
          have p3677 : N + 1 - (z8 + 1).toInt < ((n : Nat) : Int) := by (omega)
          exact ih _ _ _ _ _ _ _ _ p3674 p3676 p3677
        · replace c3673 := q_eq c3673
          rw [li_47] at c3673
          refine wq_X6_isRowText h3628 h3629 (fun r_22 q3678 => ?_)
          refine ⟨fun c3679 => ?_, fun c3680 => ?_⟩
          · replace c3679 := q_neq c3679
            rw [li_0] at c3679
            have p3681 : 0 ≤ (z1).toInt ∧ (z1).toInt < R := by omega
            refine wq_X0_costOf h3629 h3628 p3681 (fun r_25 => ?_)
            have p3682 : 0 ≤ (z1).toInt ∧ (z1).toInt < R := by omega
            refine wq_X0_missesOf h3629 h3628 p3682 (fun r_27 => ?_)
            refine ⟨fun c3683 => ?_, fun c3684 => ?_⟩
            · replace c3683 := q_eq c3683
              rw [li_0] at c3683
              have p3685 : 0 ≤ (z1).toInt ∧ (z1).toInt < R := by omega
              have e3686 := tq_addr li_1 z8
              try rw [Int.emod_eq_of_lt (show 0 ≤ (z8).toInt + 1 + 2147483648 by omega) (show (z8).toInt + 1 + 2147483648 < 4294967296 by omega)] at e3686
              have p3687 : 0 ≤ (z8 + 1).toInt ∧ (z8 + 1).toInt ≤ (z8 + 1).toInt ∧ (z8 + 1).toInt ≤ N + 1 := by omega
              have p3688 : N + 1 - (z8 + 1).toInt < ((n : Nat) : Int) := by (omega)
              exact ih _ _ _ _ _ _ _ _ p3685 p3687 p3688
            · replace c3684 := q_neq c3684
              rw [li_0] at c3684
              refine ⟨fun c3689 => ?_, fun c3690 => ?_⟩
              · replace c3689 := q_lt c3689
                have p3691 : 0 ≤ (z1).toInt ∧ (z1).toInt < R := by omega
                have e3692 := tq_addr li_1 z8
                try rw [Int.emod_eq_of_lt (show 0 ≤ (z8).toInt + 1 + 2147483648 by omega) (show (z8).toInt + 1 + 2147483648 < 4294967296 by omega)] at e3692
                have p3693 : 0 ≤ (z8 + 1).toInt ∧ (z8 + 1).toInt ≤ (z8 + 1).toInt ∧ (z8 + 1).toInt ≤ N + 1 := by omega
                have p3694 : N + 1 - (z8 + 1).toInt < ((n : Nat) : Int) := by (omega)
                exact ih _ _ _ _ _ _ _ _ p3691 p3693 p3694
              · replace c3690 := q_nlt c3690
                refine ⟨fun c3695 => ?_, fun c3696 => ?_⟩
                · replace c3695 := q_neq c3695
                  have p3697 : 0 ≤ (z1).toInt ∧ (z1).toInt < R := by omega
                  have e3698 := tq_addr li_1 z8
                  try rw [Int.emod_eq_of_lt (show 0 ≤ (z8).toInt + 1 + 2147483648 by omega) (show (z8).toInt + 1 + 2147483648 < 4294967296 by omega)] at e3698
                  have p3699 : 0 ≤ (z8 + 1).toInt ∧ (z8 + 1).toInt ≤ (z8 + 1).toInt ∧ (z8 + 1).toInt ≤ N + 1 := by omega
                  have p3700 : N + 1 - (z8 + 1).toInt < ((n : Nat) : Int) := by (omega)
                  exact ih _ _ _ _ _ _ _ _ p3697 p3699 p3700
                · replace c3696 := q_eq c3696
                  refine ⟨fun c3701 => ?_, fun c3702 => ?_⟩
                  · replace c3701 := q_le c3701
                    have p3703 : 0 ≤ (z1).toInt ∧ (z1).toInt < R := by omega
                    have e3704 := tq_addr li_1 z8
                    try rw [Int.emod_eq_of_lt (show 0 ≤ (z8).toInt + 1 + 2147483648 by omega) (show (z8).toInt + 1 + 2147483648 < 4294967296 by omega)] at e3704
                    have p3705 : 0 ≤ (z8 + 1).toInt ∧ (z8 + 1).toInt ≤ (z8 + 1).toInt ∧ (z8 + 1).toInt ≤ N + 1 := by omega
                    have p3706 : N + 1 - (z8 + 1).toInt < ((n : Nat) : Int) := by (omega)
                    exact ih _ _ _ _ _ _ _ _ p3703 p3705 p3706
                  · replace c3702 := q_nle c3702
                    have p3707 : 0 ≤ (z1).toInt ∧ (z1).toInt < R := by omega
                    have e3708 := tq_addr li_1 z8
                    try rw [Int.emod_eq_of_lt (show 0 ≤ (z8).toInt + 1 + 2147483648 by omega) (show (z8).toInt + 1 + 2147483648 < 4294967296 by omega)] at e3708
                    have p3709 : 0 ≤ (z8 + 1).toInt ∧ (z8 + 1).toInt ≤ (z8 + 1).toInt ∧ (z8 + 1).toInt ≤ N + 1 := by omega
                    have p3710 : N + 1 - (z8 + 1).toInt < ((n : Nat) : Int) := by (omega)
                    exact ih _ _ _ _ _ _ _ _ p3707 p3709 p3710
          · replace c3680 := q_eq c3680
            rw [li_0] at c3680
            exact k _
theorem wq_X6_best {post : Int32 → Prop} {s1 : Tp} {s2 : Bd} {x1 : Int32} {x2 : Int32} {N R W : Int} (h3711 : tz (N) s1) (h3712 : bi (R) (W) s2) (k : ∀ (r : Int32), post r) : wp_X6_best post s1 s2 x1 x2 := by
  unfold wp_X6_best
  have := h3711.1
  have := h3711.2
  have := h3712.1
  have := h3712.2.1
  have := h3712.2.2.1
  have := h3712.2.2.2.1
  have := h3712.2.2.2.2.2.2.2.2.2
  refine wq_X0_hasRow h3712 (fun r_1 q3713 => ?_)
  refine ⟨fun c3714 => ?_, fun c3715 => ?_⟩
  · replace c3714 := q_eq c3714
    rw [li_0] at c3714
    exact k _
  · replace c3715 := q_neq c3715
    rw [li_0] at c3715
    refine ⟨fun c3716 => ?_, fun c3717 => ?_⟩
    · replace c3716 := q_lt c3716
      rw [li_0] at c3716
      exact k _
    · replace c3717 := q_nlt c3717
      rw [li_0] at c3717
      refine ⟨fun c3718 => ?_, fun c3719 => ?_⟩
      · replace c3718 := q_le c3718
        rw [li_2] at c3718
        have p3720 : 0 ≤ (x1).toInt ∧ (x1).toInt < R := by omega
        have p3721 : 0 ≤ (0 : Int32).toInt ∧ (0 : Int32).toInt ≤ (0 : Int32).toInt ∧ (0 : Int32).toInt ≤ N + 1 := by (have := li_0; omega)
        obtain ⟨f3722, g3723⟩ := fu_e 500
        have p3724 : N + 1 - (0 : Int32).toInt < (f3722 : Int) := by (have := li_0; omega)
        refine ⟨f3722, wq_X6_best_L39 h3711 h3712 (fun z1 z2 z3 z4 z5 z6 z7 z8 q3725 q3726 => ?_) k f3722 _ _ _ _ _ _ _ _ p3720 p3721 p3724⟩
        refine ⟨fun c3727 => ?_, fun c3728 => ?_⟩
        · replace c3727 := q_neq c3727
          rw [li_0] at c3727
          refine ⟨fun c3729 => ?_, fun c3730 => ?_⟩
          · replace c3729 := q_neq c3729
            rw [li_1] at c3729
            exact k _
          · replace c3730 := q_eq c3730
            rw [li_1] at c3730
            exact k _
        · replace c3728 := q_eq c3728
          rw [li_0] at c3728
          exact k _
      · replace c3719 := q_nle c3719
        rw [li_2] at c3719
        exact k _
theorem wq_X6_place_L58 {s1 : Tp} {s2 : Bd} {post : Int32 → Prop} {e153 : Int32 → Int32 → Int32 → Int32 → Int32 → Int32 → Int32 → Prop} {N R W : Int} (h3731 : tz (N) s1) (h3732 : bi (R) (W) s2) (ke153 : ∀ (z1 : Int32) (z2 : Int32) (z3 : Int32) (z4 : Int32) (z5 : Int32) (z6 : Int32) (z7 : Int32), 0 ≤ (z1).toInt ∧ (z1).toInt < R → 0 ≤ (z7).toInt ∧ (z7).toInt ≤ 11 ∧ 1 ≤ (z3).toInt ∧ (z3).toInt ≤ 400 → e153 z1 z2 z3 z4 z5 z6 z7) : ∀ (n : Nat) (z1 : Int32) (z2 : Int32) (z3 : Int32) (z4 : Int32) (z5 : Int32) (z6 : Int32) (z7 : Int32), 0 ≤ (z1).toInt ∧ (z1).toInt < R → 0 ≤ (z7).toInt ∧ (z7).toInt ≤ 11 ∧ 1 ≤ (z3).toInt ∧ (z3).toInt ≤ 400 → 11 - (z7).toInt < (n : Int) → wp_X6_place_L58 s1 s2 post e153 n z1 z2 z3 z4 z5 z6 z7 := by
  have := h3731.1
  have := h3731.2
  have := h3732.1
  have := h3732.2.1
  have := h3732.2.2.1
  have := h3732.2.2.2.1
  have := h3732.2.2.2.2.2.2.2.2.2
  intro n
  induction n with
  | zero =>
    intro z1 z2 z3 z4 z5 z6 z7 i3733 i3734 i3735
    exfalso
    omega
  | succ n ih =>
    intro z1 z2 z3 z4 z5 z6 z7 i3733 i3734 i3735
    unfold wp_X6_place_L58
    refine ⟨fun c3736 => ?_, fun c3737 => ?_⟩
    · replace c3736 := q_lt c3736
      have e3738 := tq_add z7 z3
      try rw [Int.emod_eq_of_lt (show 0 ≤ (z7).toInt + (z3).toInt + 2147483648 by omega) (show (z7).toInt + (z3).toInt + 2147483648 < 4294967296 by omega)] at e3738
      have p3739 : 0 ≤ (z1).toInt ∧ (z1).toInt < R := by omega
      have p3740 : 0 ≤ (z7).toInt ∧ (z7).toInt ≤ 11 ∧ 1 ≤ (z3).toInt ∧ (z3).toInt ≤ 400 := by omega
      exact ke153 _ _ _ _ _ _ _ p3739 p3740
    · replace c3737 := q_nlt c3737
      have e3741 := tq_add z7 z3
      try rw [Int.emod_eq_of_lt (show 0 ≤ (z7).toInt + (z3).toInt + 2147483648 by omega) (show (z7).toInt + (z3).toInt + 2147483648 < 4294967296 by omega)] at e3741
      have p3742 : 0 ≤ (z1).toInt ∧ (z1).toInt < R := by omega
      refine wq_X0_costOf h3732 h3731 p3742 (fun r_11 => ?_)
      have p3743 : 0 ≤ (z1).toInt ∧ (z1).toInt < R := by omega
      refine wq_X0_missesOf h3732 h3731 p3743 (fun r_13 => ?_)
      refine ⟨fun c3744 => ?_, fun c3745 => ?_⟩
      · replace c3744 := q_eq c3744
        rw [li_m1] at c3744
        have p3746 : 0 ≤ (z1).toInt ∧ (z1).toInt < R := by omega
        have e3747 := tq_addr li_1 z7
        try rw [Int.emod_eq_of_lt (show 0 ≤ (z7).toInt + 1 + 2147483648 by omega) (show (z7).toInt + 1 + 2147483648 < 4294967296 by omega)] at e3747
        have p3748 : 0 ≤ (z7 + 1).toInt ∧ (z7 + 1).toInt ≤ 11 ∧ 1 ≤ (z3).toInt ∧ (z3).toInt ≤ 400 := by omega
        have p3749 : 11 - (z7 + 1).toInt < ((n : Nat) : Int) := by (omega)
        exact ih _ _ _ _ _ _ _ p3746 p3748 p3749
      · replace c3745 := q_neq c3745
        rw [li_m1] at c3745
        refine ⟨fun c3750 => ?_, fun c3751 => ?_⟩
        · replace c3750 := q_lt c3750
          have p3752 : 0 ≤ (z1).toInt ∧ (z1).toInt < R := by omega
          have e3753 := tq_addr li_1 z7
          try rw [Int.emod_eq_of_lt (show 0 ≤ (z7).toInt + 1 + 2147483648 by omega) (show (z7).toInt + 1 + 2147483648 < 4294967296 by omega)] at e3753
          have p3754 : 0 ≤ (z7 + 1).toInt ∧ (z7 + 1).toInt ≤ 11 ∧ 1 ≤ (z3).toInt ∧ (z3).toInt ≤ 400 := by omega
          have p3755 : 11 - (z7 + 1).toInt < ((n : Nat) : Int) := by (omega)
          exact ih _ _ _ _ _ _ _ p3752 p3754 p3755
        · replace c3751 := q_nlt c3751
          refine ⟨fun c3756 => ?_, fun c3757 => ?_⟩
          · replace c3756 := q_neq c3756
            have p3758 : 0 ≤ (z1).toInt ∧ (z1).toInt < R := by omega
            have e3759 := tq_addr li_1 z7
            try rw [Int.emod_eq_of_lt (show 0 ≤ (z7).toInt + 1 + 2147483648 by omega) (show (z7).toInt + 1 + 2147483648 < 4294967296 by omega)] at e3759
            have p3760 : 0 ≤ (z7 + 1).toInt ∧ (z7 + 1).toInt ≤ 11 ∧ 1 ≤ (z3).toInt ∧ (z3).toInt ≤ 400 := by omega
            have p3761 : 11 - (z7 + 1).toInt < ((n : Nat) : Int) := by (omega)
            exact ih _ _ _ _ _ _ _ p3758 p3760 p3761
          · replace c3757 := q_eq c3757
            refine ⟨fun c3762 => ?_, fun c3763 => ?_⟩
            · replace c3762 := q_le c3762
              have p3764 : 0 ≤ (z1).toInt ∧ (z1).toInt < R := by omega
              have e3765 := tq_addr li_1 z7
              try rw [Int.emod_eq_of_lt (show 0 ≤ (z7).toInt + 1 + 2147483648 by omega) (show (z7).toInt + 1 + 2147483648 < 4294967296 by omega)] at e3765
              have p3766 : 0 ≤ (z7 + 1).toInt ∧ (z7 + 1).toInt ≤ 11 ∧ 1 ≤ (z3).toInt ∧ (z3).toInt ≤ 400 := by omega
              have p3767 : 11 - (z7 + 1).toInt < ((n : Nat) : Int) := by (omega)
              exact ih _ _ _ _ _ _ _ p3764 p3766 p3767
            · replace c3763 := q_nle c3763
              have p3768 : 0 ≤ (z1).toInt ∧ (z1).toInt < R := by omega
              have e3769 := tq_addr li_1 z7
              try rw [Int.emod_eq_of_lt (show 0 ≤ (z7).toInt + 1 + 2147483648 by omega) (show (z7).toInt + 1 + 2147483648 < 4294967296 by omega)] at e3769
              have p3770 : 0 ≤ (z7 + 1).toInt ∧ (z7 + 1).toInt ≤ 11 ∧ 1 ≤ (z3).toInt ∧ (z3).toInt ≤ 400 := by omega
              have p3771 : 11 - (z7 + 1).toInt < ((n : Nat) : Int) := by (omega)
              exact ih _ _ _ _ _ _ _ p3768 p3770 p3771
theorem wq_X6_place {post : Int32 → Prop} {s1 : Tp} {s2 : Bd} {x1 : Int32} {x2 : Int32} {N R W : Int} (h3772 : tz (N) s1) (h3773 : bi (R) (W) s2) (k : ∀ (r : Int32), post r) : wp_X6_place post s1 s2 x1 x2 := by
  unfold wp_X6_place
  have := h3772.1
  have := h3772.2
  have := h3773.1
  have := h3773.2.1
  have := h3773.2.2.1
  have := h3773.2.2.2.1
  have := h3773.2.2.2.2.2.2.2.2.2
  refine wq_X0_hasRow h3773 (fun r_1 q3774 => ?_)
  refine ⟨fun c3775 => ?_, fun c3776 => ?_⟩
  · replace c3775 := q_eq c3775
    rw [li_0] at c3775
    exact k _
  · replace c3776 := q_neq c3776
    rw [li_0] at c3776
    refine ⟨fun c3777 => ?_, fun c3778 => ?_⟩
    · replace c3777 := q_lt c3777
      rw [li_0] at c3777
      exact k _
    · replace c3778 := q_nlt c3778
      rw [li_0] at c3778
      refine ⟨fun c3779 => ?_, fun c3780 => ?_⟩
      · replace c3779 := q_le c3779
        rw [li_1] at c3779
        refine ⟨fun c3781 => ?_, fun c3782 => ?_⟩
        · replace c3781 := q_eq c3781
          rw [li_0] at c3781
          exact k _
        · replace c3782 := q_neq c3782
          rw [li_0] at c3782
          refine wq_X6_isRowText h3772 h3773 (fun r_7 q3783 => ?_)
          refine ⟨fun c3784 => ?_, fun c3785 => ?_⟩
          · replace c3784 := q_neq c3784
            rw [li_0] at c3784
            have p3786 : 0 ≤ (x1).toInt ∧ (x1).toInt < R := by omega
            have p3787 : 0 ≤ (0 : Int32).toInt ∧ (0 : Int32).toInt ≤ 11 ∧ 1 ≤ (s1.1 0).toInt ∧ (s1.1 0).toInt ≤ 400 := by (have := li_0; omega)
            obtain ⟨f3788, g3789⟩ := fu_e 50
            have p3790 : 11 - (0 : Int32).toInt < (f3788 : Int) := by (have := li_0; omega)
            refine ⟨f3788, wq_X6_place_L58 h3772 h3773 (fun z1 z2 z3 z4 z5 z6 z7 q3791 q3792 => ?_) f3788 _ _ _ _ _ _ _ p3786 p3787 p3790⟩
            refine ⟨fun c3793 => ?_, fun c3794 => ?_⟩
            · replace c3793 := q_neq c3793
              rw [li_0] at c3793
              exact k _
            · replace c3794 := q_eq c3794
              rw [li_0] at c3794
              exact k _
          · replace c3785 := q_eq c3785
            rw [li_0] at c3785
            exact k _
      · replace c3780 := q_nle c3780
        rw [li_1] at c3780
        exact k _
theorem wq_X6_usual_L30 {s2 : Bd} {post : Int32 → Prop} {e76 : Int32 → Int32 → Int32 → Int32 → Int32 → Prop} {R W : Int} (h3795 : bi (R) (W) s2) (ke76 : ∀ (z1 : Int32) (z2 : Int32) (z3 : Int32) (z4 : Int32) (z5 : Int32), 0 ≤ (z5).toInt ∧ (z5).toInt ≤ 40 → e76 z1 z2 z3 z4 z5) : ∀ (n : Nat) (z1 : Int32) (z2 : Int32) (z3 : Int32) (z4 : Int32) (z5 : Int32), 0 ≤ (z5).toInt ∧ (z5).toInt ≤ 40 → 40 - (z5).toInt < (n : Int) → wp_X6_usual_L30 s2 post e76 n z1 z2 z3 z4 z5 := by
  have := h3795.1
  have := h3795.2.1
  have := h3795.2.2.1
  have := h3795.2.2.2.1
  have := h3795.2.2.2.2.2.2.2.2.2
  intro n
  induction n with
  | zero =>
    intro z1 z2 z3 z4 z5 i3796 i3797
    exfalso
    omega
  | succ n ih =>
    intro z1 z2 z3 z4 z5 i3796 i3797
    unfold wp_X6_usual_L30
    refine wq_X0_flapsOn h3795 (fun r_6 q3798 q3799 => ?_)
    refine ⟨fun c3800 => ?_, fun c3801 => ?_⟩
    · replace c3800 := q_le c3800
      have p3802 : 0 ≤ (z5).toInt ∧ (z5).toInt ≤ 40 := by omega
      exact ke76 _ _ _ _ _ p3802
    · replace c3801 := q_nle c3801
      refine wq_X0_entriesOf h3795 (fun r_9 => ?_)
      refine ⟨fun c3803 => ?_, fun c3804 => ?_⟩
      · replace c3803 := q_le c3803
        have e3805 := tq_addr li_1 z5
        try rw [Int.emod_eq_of_lt (show 0 ≤ (z5).toInt + 1 + 2147483648 by omega) (show (z5).toInt + 1 + 2147483648 < 4294967296 by omega)] at e3805
        have p3806 : 0 ≤ (z5 + 1).toInt ∧ (z5 + 1).toInt ≤ 40 := by omega
        have p3807 : 40 - (z5 + 1).toInt < ((n : Nat) : Int) := by (omega)
        exact ih _ _ _ _ _ p3806 p3807
      · replace c3804 := q_nle c3804
        have e3808 := tq_addr li_1 z5
        try rw [Int.emod_eq_of_lt (show 0 ≤ (z5).toInt + 1 + 2147483648 by omega) (show (z5).toInt + 1 + 2147483648 < 4294967296 by omega)] at e3808
        have p3809 : 0 ≤ (z5 + 1).toInt ∧ (z5 + 1).toInt ≤ 40 := by omega
        have p3810 : 40 - (z5 + 1).toInt < ((n : Nat) : Int) := by (omega)
        exact ih _ _ _ _ _ p3809 p3810

theorem wq_X6_usual {post : Int32 → Prop} {s2 : Bd} {x1 : Int32} {x2 : Int32} {R W : Int} (h3811 : bi (R) (W) s2) (k : ∀ (r : Int32), post r) : wp_X6_usual post s2 x1 x2 := by
  unfold wp_X6_usual
  have := h3811.1
  have := h3811.2.1
  have := h3811.2.2.1
  have := h3811.2.2.2.1
  have := h3811.2.2.2.2.2.2.2.2.2
  refine wq_X0_hasDrum h3811 (fun r_1 q3812 => ?_)
  refine ⟨fun c3813 => ?_, fun c3814 => ?_⟩
  · replace c3813 := q_eq c3813
    rw [li_0] at c3813
    exact k _
  · replace c3814 := q_neq c3814
    rw [li_0] at c3814
    refine ⟨fun c3815 => ?_, fun c3816 => ?_⟩
    · replace c3815 := q_lt c3815
      rw [li_0] at c3815
      exact k _
    · replace c3816 := q_nlt c3816
      rw [li_0] at c3816
      refine ⟨fun c3817 => ?_, fun c3818 => ?_⟩
      · replace c3817 := q_le c3817
        rw [li_1] at c3817
        have p3819 : 0 ≤ (0 : Int32).toInt ∧ (0 : Int32).toInt ≤ 40 := by (have := li_0; omega)
        obtain ⟨f3820, g3821⟩ := fu_e 50
        have p3822 : 40 - (0 : Int32).toInt < (f3820 : Int) := by (have := li_0; omega)
        refine ⟨f3820, wq_X6_usual_L30 h3811 (fun z1 z2 z3 z4 z5 q3823 => ?_) f3820 _ _ _ _ _ p3819 p3822⟩
        refine ⟨fun c3824 => ?_, fun c3825 => ?_⟩
        · replace c3824 := q_neq c3824
          rw [li_m1] at c3824
          refine ⟨fun c3826 => ?_, fun c3827 => ?_⟩
          · replace c3826 := q_neq c3826
            rw [li_0] at c3826
            exact k _
          · replace c3827 := q_eq c3827
            rw [li_0] at c3827
            exact k _
        · replace c3825 := q_eq c3825
          rw [li_m1] at c3825
          exact k _
      · replace c3818 := q_nle c3818
        rw [li_1] at c3818
        exact k _
theorem wq_X6_better_L55 {s2 : Bd} {post : Int32 → Prop} {e100 : Int32 → Int32 → Int32 → Int32 → Int32 → Int32 → Int32 → Int32 → Prop} {R W Z Y : Int} (h3828 : bi (R) (W) s2) (ke100 : ∀ (z1 : Int32) (z2 : Int32) (z3 : Int32) (z4 : Int32) (z5 : Int32) (z6 : Int32) (z7 : Int32) (z8 : Int32), 0 ≤ (z8).toInt ∧ (z8).toInt ≤ 41 ∧ (z3).toInt ≤ 40 → (z7).toInt = Z → (z3).toInt = Y → e100 z1 z2 z3 z4 z5 z6 z7 z8) : ∀ (n : Nat) (z1 : Int32) (z2 : Int32) (z3 : Int32) (z4 : Int32) (z5 : Int32) (z6 : Int32) (z7 : Int32) (z8 : Int32), 0 ≤ (z8).toInt ∧ (z8).toInt ≤ 41 ∧ (z3).toInt ≤ 40 → (z7).toInt = Z → (z3).toInt = Y → 41 - (z8).toInt < (n : Int) → wp_X6_better_L55 s2 post e100 n z1 z2 z3 z4 z5 z6 z7 z8 := by
  have := h3828.1
  have := h3828.2.1
  have := h3828.2.2.1
  have := h3828.2.2.2.1
  have := h3828.2.2.2.2.2.2.2.2.2
  intro n
  induction n with
  | zero =>
    intro z1 z2 z3 z4 z5 z6 z7 z8 i3829 i3830 i3831 i3832
    exfalso
    omega
  | succ n ih =>
    intro z1 z2 z3 z4 z5 z6 z7 z8 i3829 i3830 i3831 i3832
    unfold wp_X6_better_L55
    refine ⟨fun c3833 => ?_, fun c3834 => ?_⟩
    · replace c3833 := q_le c3833
      have p3835 : 0 ≤ (z8).toInt ∧ (z8).toInt ≤ 41 ∧ (z3).toInt ≤ 40 := by omega
      have p3836 : (z7).toInt = Z := by omega
      have p3837 : (z3).toInt = Y := by omega
      exact ke100 _ _ _ _ _ _ _ _ p3835 p3836 p3837
    · replace c3834 := q_nle c3834
      refine wq_X0_journeyChange h3828 (fun r_10 => ?_)
      refine ⟨fun c3838 => ?_, fun c3839 => ?_⟩
      · replace c3838 := q_le c3838
        have e3840 := tq_addr li_1 z8
        try rw [Int.emod_eq_of_lt (show 0 ≤ (z8).toInt + 1 + 2147483648 by omega) (show (z8).toInt + 1 + 2147483648 < 4294967296 by omega)] at e3840
        have p3841 : 0 ≤ (z8 + 1).toInt ∧ (z8 + 1).toInt ≤ 41 ∧ (z3).toInt ≤ 40 := by omega
        have p3842 : (z7).toInt = Z := by omega
        have p3843 : (z3).toInt = Y := by omega
        have p3844 : 41 - (z8 + 1).toInt < ((n : Nat) : Int) := by (omega)
        exact ih _ _ _ _ _ _ _ _ p3841 p3842 p3843 p3844
      · replace c3839 := q_nle c3839
        have e3845 := tq_addr li_1 z8
        try rw [Int.emod_eq_of_lt (show 0 ≤ (z8).toInt + 1 + 2147483648 by omega) (show (z8).toInt + 1 + 2147483648 < 4294967296 by omega)] at e3845
        have p3846 : 0 ≤ (z8 + 1).toInt ∧ (z8 + 1).toInt ≤ 41 ∧ (z3).toInt ≤ 40 := by omega
        have p3847 : (z7).toInt = Z := by omega
        have p3848 : (z3).toInt = Y := by omega
        have p3849 : 41 - (z8 + 1).toInt < ((n : Nat) : Int) := by (omega)
        exact ih _ _ _ _ _ _ _ _ p3846 p3847 p3848 p3849
theorem wq_X6_better_L43 {s2 : Bd} {post : Int32 → Prop} {e106 : Int32 → Int32 → Int32 → Int32 → Int32 → Int32 → Int32 → Prop} {R W : Int} (h3850 : bi (R) (W) s2) (ke106 : ∀ (z1 : Int32) (z2 : Int32) (z3 : Int32) (z4 : Int32) (z5 : Int32) (z6 : Int32) (z7 : Int32), 0 ≤ (z7).toInt ∧ (z7).toInt ≤ 41 ∧ (z3).toInt ≤ 40 → e106 z1 z2 z3 z4 z5 z6 z7) : ∀ (n : Nat) (z1 : Int32) (z2 : Int32) (z3 : Int32) (z4 : Int32) (z5 : Int32) (z6 : Int32) (z7 : Int32), 0 ≤ (z7).toInt ∧ (z7).toInt ≤ 41 ∧ (z3).toInt ≤ 40 → 41 - (z7).toInt < (n : Int) → wp_X6_better_L43 s2 post e106 n z1 z2 z3 z4 z5 z6 z7 := by
  have := h3850.1
  have := h3850.2.1
  have := h3850.2.2.1
  have := h3850.2.2.2.1
  have := h3850.2.2.2.2.2.2.2.2.2
  intro n
  induction n with
  | zero =>
    intro z1 z2 z3 z4 z5 z6 z7 i3851 i3852
    exfalso
    omega
  | succ n ih =>
    intro z1 z2 z3 z4 z5 z6 z7 i3851 i3852
    unfold wp_X6_better_L43
    refine ⟨fun c3853 => ?_, fun c3854 => ?_⟩
    · replace c3853 := q_le c3853
      have p3855 : 0 ≤ (z7).toInt ∧ (z7).toInt ≤ 41 ∧ (z3).toInt ≤ 40 := by omega
      exact ke106 _ _ _ _ _ _ _ p3855
    · replace c3854 := q_nle c3854
      have e3856 := tq_addr li_1 z7
      try rw [Int.emod_eq_of_lt (show 0 ≤ (z7).toInt + 1 + 2147483648 by omega) (show (z7).toInt + 1 + 2147483648 < 4294967296 by omega)] at e3856
      have p3857 : 0 ≤ (z7 + 1).toInt ∧ (z7 + 1).toInt ≤ 41 ∧ (z3).toInt ≤ 40 := by omega
      have p3858 : (z7).toInt = ((z7).toInt) := by omega
      have p3859 : (z3).toInt = ((z3).toInt) := by omega
      obtain ⟨f3860, g3861⟩ := fu_e 50
      have p3862 : 41 - (z7 + 1).toInt < (f3860 : Int) := by (omega)
      refine ⟨f3860, wq_X6_better_L55 h3850 (fun z1_3863 z2_3864 z3_3865 z4_3866 z5_3867 z6_3868 z7_3869 z8 q3870 q3871 q3872 => ?_) f3860 _ _ _ _ _ _ _ _ p3857 p3858 p3859 p3862⟩
      have e3873 := tq_addr li_1 z7_3869
      try rw [Int.emod_eq_of_lt (show 0 ≤ (z7_3869).toInt + 1 + 2147483648 by omega) (show (z7_3869).toInt + 1 + 2147483648 < 4294967296 by omega)] at e3873
      have p3874 : 0 ≤ (z7_3869 + 1).toInt ∧ (z7_3869 + 1).toInt ≤ 41 ∧ (z3_3865).toInt ≤ 40 := by omega
      have p3875 : 41 - (z7_3869 + 1).toInt < ((n : Nat) : Int) := by (omega)
      exact ih _ _ _ _ _ _ _ p3874 p3875
theorem wq_X6_better {post : Int32 → Prop} {s2 : Bd} {x1 : Int32} {x2 : Int32} {R W : Int} (h3876 : bi (R) (W) s2) (k : ∀ (r : Int32), post r) : wp_X6_better post s2 x1 x2 := by
  unfold wp_X6_better
  have := h3876.1
  have := h3876.2.1
  have := h3876.2.2.1
  have := h3876.2.2.2.1
  have := h3876.2.2.2.2.2.2.2.2.2
  refine wq_X0_hasDrum h3876 (fun r_1 q3877 => ?_)
  refine ⟨fun c3878 => ?_, fun c3879 => ?_⟩
  · replace c3878 := q_eq c3878
    rw [li_0] at c3878
    exact k _
  · replace c3879 := q_neq c3879
    rw [li_0] at c3879
    refine ⟨fun c3880 => ?_, fun c3881 => ?_⟩
    · replace c3880 := q_lt c3880
      rw [li_0] at c3880
      exact k _
    · replace c3881 := q_nlt c3881
      rw [li_0] at c3881
      refine ⟨fun c3882 => ?_, fun c3883 => ?_⟩
      · replace c3882 := q_le c3882
        rw [li_2] at c3882
        refine wq_X0_flapsOn h3876 (fun r_6 q3884 q3885 => ?_)
        have p3886 : 0 ≤ (1 : Int32).toInt ∧ (1 : Int32).toInt ≤ 41 ∧ (r_6).toInt ≤ 40 := by (have := li_1; omega)
        obtain ⟨f3887, g3888⟩ := fu_e 50
        have p3889 : 41 - (1 : Int32).toInt < (f3887 : Int) := by (have := li_1; omega)
        refine ⟨f3887, wq_X6_better_L43 h3876 (fun z1 z2 z3 z4 z5 z6 z7 q3890 => ?_) f3887 _ _ _ _ _ _ _ p3886 p3889⟩
        refine ⟨fun c3891 => ?_, fun c3892 => ?_⟩
        · replace c3891 := q_neq c3891
          rw [li_m1] at c3891
          refine ⟨fun c3893 => ?_, fun c3894 => ?_⟩
          · replace c3893 := q_neq c3893
            rw [li_0] at c3893
            refine ⟨fun c3895 => ?_, fun c3896 => ?_⟩
            · replace c3895 := q_neq c3895
              rw [li_1] at c3895
              exact k _
            · replace c3896 := q_eq c3896
              rw [li_1] at c3896
              exact k _
          · replace c3894 := q_eq c3894
            rw [li_0] at c3894
            refine wq_X0_journey h3876 (fun r_16 => ?_)
            exact k _
        · replace c3892 := q_eq c3892
          rw [li_m1] at c3892
          exact k _
      · replace c3883 := q_nle c3883
        rw [li_2] at c3883
        exact k _
theorem wq_X6_farthest_L30 {s2 : Bd} {post : Int32 → Prop} {e101 : Int32 → Int32 → Int32 → Int32 → Int32 → Prop} {R W : Int} (h3897 : bi (R) (W) s2) (ke101 : ∀ (z1 : Int32) (z2 : Int32) (z3 : Int32) (z4 : Int32) (z5 : Int32), 0 ≤ (z5).toInt ∧ (z5).toInt ≤ 40 → 0 ≤ (z1).toInt ∧ (z1).toInt < 40 → e101 z1 z2 z3 z4 z5) : ∀ (n : Nat) (z1 : Int32) (z2 : Int32) (z3 : Int32) (z4 : Int32) (z5 : Int32), 0 ≤ (z5).toInt ∧ (z5).toInt ≤ 40 → 0 ≤ (z1).toInt ∧ (z1).toInt < 40 → 40 - (z5).toInt < (n : Int) → wp_X6_farthest_L30 s2 post e101 n z1 z2 z3 z4 z5 := by
  have := h3897.1
  have := h3897.2.1
  have := h3897.2.2.1
  have := h3897.2.2.2.1
  have := h3897.2.2.2.2.2.2.2.2.2
  intro n
  induction n with
  | zero =>
    intro z1 z2 z3 z4 z5 i3898 i3899 i3900
    exfalso
    omega
  | succ n ih =>
    intro z1 z2 z3 z4 z5 i3898 i3899 i3900
    unfold wp_X6_farthest_L30
    have p3901 : 0 ≤ (z1).toInt ∧ (z1).toInt < 40 := by omega
    refine wq_X0_flapsOf h3897 p3901 (fun r_6 q3902 => ?_)
    refine ⟨fun c3903 => ?_, fun c3904 => ?_⟩
    · replace c3903 := q_le c3903
      have p3905 : 0 ≤ (z5).toInt ∧ (z5).toInt ≤ 40 := by omega
      have p3906 : 0 ≤ (z1).toInt ∧ (z1).toInt < 40 := by omega
      exact ke101 _ _ _ _ _ p3905 p3906
    · replace c3904 := q_nle c3904
      have p3907 : 0 ≤ (z1).toInt ∧ (z1).toInt < 40 := by omega
      refine wq_X0_flapsOnTo h3897 p3907 (fun r_9 => ?_)
      have p3908 : 0 ≤ (z1).toInt ∧ (z1).toInt < 40 := by omega
      refine wq_X0_signOn h3897 p3908 (fun r_11 => ?_)
      refine ⟨fun c3909 => ?_, fun c3910 => ?_⟩
      · replace c3909 := q_le c3909
        have e3911 := tq_addr li_1 z5
        try rw [Int.emod_eq_of_lt (show 0 ≤ (z5).toInt + 1 + 2147483648 by omega) (show (z5).toInt + 1 + 2147483648 < 4294967296 by omega)] at e3911
        have p3912 : 0 ≤ (z5 + 1).toInt ∧ (z5 + 1).toInt ≤ 40 := by omega
        have p3913 : 0 ≤ (z1).toInt ∧ (z1).toInt < 40 := by omega
        have p3914 : 40 - (z5 + 1).toInt < ((n : Nat) : Int) := by (omega)
        exact ih _ _ _ _ _ p3912 p3913 p3914
      · replace c3910 := q_nle c3910
        have p3915 : 0 ≤ (z1).toInt ∧ (z1).toInt < 40 := by omega
        refine wq_X0_nearest h3897 p3915 (fun r_14 q3916 => ?_)
        refine ⟨fun c3917 => ?_, fun c3918 => ?_⟩
        · replace c3917 := q_neq c3917
          have e3919 := tq_addr li_1 z5
          try rw [Int.emod_eq_of_lt (show 0 ≤ (z5).toInt + 1 + 2147483648 by omega) (show (z5).toInt + 1 + 2147483648 < 4294967296 by omega)] at e3919
          have p3920 : 0 ≤ (z5 + 1).toInt ∧ (z5 + 1).toInt ≤ 40 := by omega
          have p3921 : 0 ≤ (z1).toInt ∧ (z1).toInt < 40 := by omega
          have p3922 : 40 - (z5 + 1).toInt < ((n : Nat) : Int) := by (omega)
          exact ih _ _ _ _ _ p3920 p3921 p3922
        · replace c3918 := q_eq c3918
          have e3923 := tq_addr li_1 z5
          try rw [Int.emod_eq_of_lt (show 0 ≤ (z5).toInt + 1 + 2147483648 by omega) (show (z5).toInt + 1 + 2147483648 < 4294967296 by omega)] at e3923
          have p3924 : 0 ≤ (z5 + 1).toInt ∧ (z5 + 1).toInt ≤ 40 := by omega
          have p3925 : 0 ≤ (z1).toInt ∧ (z1).toInt < 40 := by omega
          have p3926 : 40 - (z5 + 1).toInt < ((n : Nat) : Int) := by (omega)
          exact ih _ _ _ _ _ p3924 p3925 p3926
theorem wq_X6_farthest {post : Int32 → Prop} {s2 : Bd} {x1 : Int32} {x2 : Int32} {R W : Int} (h3927 : bi (R) (W) s2) (k : ∀ (r : Int32), post r) : wp_X6_farthest post s2 x1 x2 := by
  unfold wp_X6_farthest
  have := h3927.1
  have := h3927.2.1
  have := h3927.2.2.1
  have := h3927.2.2.2.1
  have := h3927.2.2.2.2.2.2.2.2.2
  refine wq_X0_hasCell h3927 (fun r_1 q3928 => ?_)
  refine ⟨fun c3929 => ?_, fun c3930 => ?_⟩
  · replace c3929 := q_eq c3929
    rw [li_0] at c3929
    exact k _
  · replace c3930 := q_neq c3930
    rw [li_0] at c3930
    refine ⟨fun c3931 => ?_, fun c3932 => ?_⟩
    · replace c3931 := q_lt c3931
      rw [li_0] at c3931
      exact k _
    · replace c3932 := q_nlt c3932
      rw [li_0] at c3932
      refine ⟨fun c3933 => ?_, fun c3934 => ?_⟩
      · replace c3933 := q_le c3933
        rw [li_1] at c3933
        have p3935 : 0 ≤ (0 : Int32).toInt ∧ (0 : Int32).toInt ≤ 40 := by (have := li_0; omega)
        have p3936 : 0 ≤ (x1).toInt ∧ (x1).toInt < 40 := by omega
        obtain ⟨f3937, g3938⟩ := fu_e 50
        have p3939 : 40 - (0 : Int32).toInt < (f3937 : Int) := by (have := li_0; omega)
        refine ⟨f3937, wq_X6_farthest_L30 h3927 (fun z1 z2 z3 z4 z5 q3940 q3941 => ?_) f3937 _ _ _ _ _ p3935 p3936 p3939⟩
        refine ⟨fun c3942 => ?_, fun c3943 => ?_⟩
        · replace c3942 := q_neq c3942
          rw [li_0] at c3942
          exact k _
        · replace c3943 := q_eq c3943
          rw [li_0] at c3943
          exact k _
      · replace c3934 := q_nle c3934
        rw [li_1] at c3934
        exact k _
theorem wq_X6_unlike_L34 {s2 : Bd} {post : Int32 → Prop} {e104 : Int32 → Int32 → Int32 → Int32 → Prop} {R W : Int} (h3944 : bi (R) (W) s2) (ke104 : ∀ (z1 : Int32) (z2 : Int32) (z3 : Int32) (z4 : Int32), 0 ≤ (z1).toInt ∧ (z1).toInt < R ∧ 0 ≤ (z2).toInt ∧ (z2).toInt < R → 0 ≤ (z4).toInt ∧ (z4).toInt ≤ W → e104 z1 z2 z3 z4) : ∀ (n : Nat) (z1 : Int32) (z2 : Int32) (z3 : Int32) (z4 : Int32), 0 ≤ (z1).toInt ∧ (z1).toInt < R ∧ 0 ≤ (z2).toInt ∧ (z2).toInt < R → 0 ≤ (z4).toInt ∧ (z4).toInt ≤ W → W - (z4).toInt < (n : Int) → wp_X6_unlike_L34 s2 post e104 n z1 z2 z3 z4 := by
  have := h3944.1
  have := h3944.2.1
  have := h3944.2.2.1
  have := h3944.2.2.2.1
  have := h3944.2.2.2.2.2.2.2.2.2
  intro n
  induction n with
  | zero =>
    intro z1 z2 z3 z4 i3945 i3946 i3947
    exfalso
    omega
  | succ n ih =>
    intro z1 z2 z3 z4 i3945 i3946 i3947
    unfold wp_X6_unlike_L34
    refine ⟨fun c3948 => ?_, fun c3949 => ?_⟩
    · replace c3948 := q_le c3948
      have p3950 : 0 ≤ (z1).toInt ∧ (z1).toInt < R ∧ 0 ≤ (z2).toInt ∧ (z2).toInt < R := by omega
      have p3951 : 0 ≤ (z4).toInt ∧ (z4).toInt ≤ W := by omega
      exact ke104 _ _ _ _ p3950 p3951
    · replace c3949 := q_nle c3949
      have := rw_l (a := z1) (b := (s2.1 1)) (R := R) (W := W) (by omega) (by omega) (by omega)
      have e3952 := tq_add (z1 * (s2.1 1)) z4
      try rw [Int.emod_eq_of_lt (show 0 ≤ (z1 * (s2.1 1)).toInt + (z4).toInt + 2147483648 by omega) (show (z1 * (s2.1 1)).toInt + (z4).toInt + 2147483648 < 4294967296 by omega)] at e3952
      have p3953 : 0 ≤ ((z1 * (s2.1 1)) + z4).toInt ∧ ((z1 * (s2.1 1)) + z4).toInt < 40 := by omega
      refine wq_X0_wantedSign h3944 p3953 (fun r_9 => ?_)
      have := rw_l (a := z2) (b := (s2.1 1)) (R := R) (W := W) (by omega) (by omega) (by omega)
      have e3954 := tq_add (z2 * (s2.1 1)) z4
      try rw [Int.emod_eq_of_lt (show 0 ≤ (z2 * (s2.1 1)).toInt + (z4).toInt + 2147483648 by omega) (show (z2 * (s2.1 1)).toInt + (z4).toInt + 2147483648 < 4294967296 by omega)] at e3954
      have p3955 : 0 ≤ ((z2 * (s2.1 1)) + z4).toInt ∧ ((z2 * (s2.1 1)) + z4).toInt < 40 := by omega
      refine wq_X0_wantedSign h3944 p3955 (fun r_11 => ?_)
      refine ⟨fun c3956 => ?_, fun c3957 => ?_⟩
      · replace c3956 := q_eq c3956
        have p3958 : 0 ≤ (z1).toInt ∧ (z1).toInt < R ∧ 0 ≤ (z2).toInt ∧ (z2).toInt < R := by omega
        have e3959 := tq_addr li_1 z4
        try rw [Int.emod_eq_of_lt (show 0 ≤ (z4).toInt + 1 + 2147483648 by omega) (show (z4).toInt + 1 + 2147483648 < 4294967296 by omega)] at e3959
        have p3960 : 0 ≤ (z4 + 1).toInt ∧ (z4 + 1).toInt ≤ W := by omega
        have p3961 : W - (z4 + 1).toInt < ((n : Nat) : Int) := by (omega)
        exact ih _ _ _ _ p3958 p3960 p3961
      · replace c3957 := q_neq c3957
        have p3962 : 0 ≤ (z1).toInt ∧ (z1).toInt < R ∧ 0 ≤ (z2).toInt ∧ (z2).toInt < R := by omega
        have e3963 := tq_addr li_1 z4
        try rw [Int.emod_eq_of_lt (show 0 ≤ (z4).toInt + 1 + 2147483648 by omega) (show (z4).toInt + 1 + 2147483648 < 4294967296 by omega)] at e3963
        have p3964 : 0 ≤ (z4 + 1).toInt ∧ (z4 + 1).toInt ≤ W := by omega
        have p3965 : W - (z4 + 1).toInt < ((n : Nat) : Int) := by (omega)
        exact ih _ _ _ _ p3962 p3964 p3965
theorem wq_X6_unlike {post : Int32 → Prop} {s2 : Bd} {x1 : Int32} {x2 : Int32} {R W : Int} (h3966 : bi (R) (W) s2) (k : ∀ (r : Int32), post r) : wp_X6_unlike post s2 x1 x2 := by
  unfold wp_X6_unlike
  have := h3966.1
  have := h3966.2.1
  have := h3966.2.2.1
  have := h3966.2.2.2.1
  have := h3966.2.2.2.2.2.2.2.2.2
  refine wq_X0_hasRow h3966 (fun r_1 q3967 => ?_)
  refine ⟨fun c3968 => ?_, fun c3969 => ?_⟩
  · replace c3968 := q_eq c3968
    rw [li_0] at c3968
    exact k _
  · replace c3969 := q_neq c3969
    rw [li_0] at c3969
    refine wq_X0_hasRow h3966 (fun r_4 q3970 => ?_)
    refine ⟨fun c3971 => ?_, fun c3972 => ?_⟩
    · replace c3971 := q_eq c3971
      rw [li_0] at c3971
      exact k _
    · replace c3972 := q_neq c3972
      rw [li_0] at c3972
      refine ⟨fun c3973 => ?_, fun c3974 => ?_⟩
      · replace c3973 := q_neq c3973
        have p3975 : 0 ≤ (x1).toInt ∧ (x1).toInt < R ∧ 0 ≤ (x2).toInt ∧ (x2).toInt < R := by omega
        have p3976 : 0 ≤ (0 : Int32).toInt ∧ (0 : Int32).toInt ≤ W := by (have := li_0; omega)
        obtain ⟨f3977, g3978⟩ := fu_e 50
        have p3979 : W - (0 : Int32).toInt < (f3977 : Int) := by (have := li_0; omega)
        refine ⟨f3977, wq_X6_unlike_L34 h3966 (fun z1 z2 z3 z4 q3980 q3981 => ?_) f3977 _ _ _ _ p3975 p3976 p3979⟩
        exact k _
      · replace c3974 := q_eq c3974
        exact k _
theorem dv_l {x d : Int32} {k : Int} (hd : d.toInt = k) (hk : 0 < k) (hx : 0 ≤ x.toInt) : (x / d).toInt = x.toInt / k := by
  rw [Int32.toInt_div, bm32, hd, Int.tdiv_eq_ediv_of_nonneg hx]
  have a := Int.ediv_nonneg hx (Int.le_of_lt hk)
  have b := Int.ediv_le_self k hx
  have c := tq_r x
  generalize x.toInt / k = y at a b ⊢
  omega
theorem let_b {x w : Int32} {R W : Int} (hw : w.toInt = W) (hp : 0 ≤ R ∧ R ≤ 6 ∧ 0 ≤ W ∧ W ≤ 10 ∧ R * W ≤ 40) (h : 0 ≤ x.toInt) (h2 : x.toInt < R * W + R - 1 ∧ ¬ (x - x / (w + 1) * (w + 1)).toInt = w.toInt ∨ x.toInt < 0) : 0 ≤ ((x / (w + 1)) * w + (x - x / (w + 1) * (w + 1))).toInt ∧ ((x / (w + 1)) * w + (x - x / (w + 1) * (w + 1))).toInt < 40 := by
  have key : ∀ c : Int32, ∀ C : Int, c.toInt = C → 0 ≤ C → C ≤ 10 → R * C ≤ 40 → x.toInt < R * C + R - 1 ∧ ¬ (x - x / (c + 1) * (c + 1)).toInt = c.toInt ∨ x.toInt < 0 → 0 ≤ ((x / (c + 1)) * c + (x - x / (c + 1) * (c + 1))).toInt ∧ ((x / (c + 1)) * c + (x - x / (c + 1) * (c + 1))).toInt < 40 := by
    intro c C hc h0 h10 h40 hx
    have cs : C = 0 ∨ C = 1 ∨ C = 2 ∨ C = 3 ∨ C = 4 ∨ C = 5 ∨ C = 6 ∨ C = 7 ∨ C = 8 ∨ C = 9 ∨ C = 10 := by omega
    rcases cs with e | e | e | e | e | e | e | e | e | e | e
    · subst e
      have hc2 : c = 0 := Int32.toInt_inj.mp (hc.trans rfl)
      subst hc2
      have d1 : ((0 : Int32) + 1).toInt = 1 := rfl
      have d0 : (0 : Int32).toInt = 0 := rfl
      have q := dv_l (x := x) d1 (by omega) h
      have q1 := nw (tq_mulr d0 (x / ((0 : Int32) + 1))) (by omega)
      have q2 := nw (tq_mulr d1 (x / ((0 : Int32) + 1))) (by omega)
      have q3 := nw (tq_sub x (x / ((0 : Int32) + 1) * ((0 : Int32) + 1))) (by omega)
      have q4 := nw (tq_add (x / ((0 : Int32) + 1) * (0 : Int32)) (x - x / ((0 : Int32) + 1) * ((0 : Int32) + 1))) (by omega)
      omega
    · subst e
      have hc2 : c = 1 := Int32.toInt_inj.mp (hc.trans rfl)
      subst hc2
      have d1 : ((1 : Int32) + 1).toInt = 2 := rfl
      have d0 : (1 : Int32).toInt = 1 := rfl
      have q := dv_l (x := x) d1 (by omega) h
      have q1 := nw (tq_mulr d0 (x / ((1 : Int32) + 1))) (by omega)
      have q2 := nw (tq_mulr d1 (x / ((1 : Int32) + 1))) (by omega)
      have q3 := nw (tq_sub x (x / ((1 : Int32) + 1) * ((1 : Int32) + 1))) (by omega)
      have q4 := nw (tq_add (x / ((1 : Int32) + 1) * (1 : Int32)) (x - x / ((1 : Int32) + 1) * ((1 : Int32) + 1))) (by omega)
      omega
    · subst e
      have hc2 : c = 2 := Int32.toInt_inj.mp (hc.trans rfl)
      subst hc2
      have d1 : ((2 : Int32) + 1).toInt = 3 := rfl
      have d0 : (2 : Int32).toInt = 2 := rfl
      have q := dv_l (x := x) d1 (by omega) h
      have q1 := nw (tq_mulr d0 (x / ((2 : Int32) + 1))) (by omega)
      have q2 := nw (tq_mulr d1 (x / ((2 : Int32) + 1))) (by omega)
      have q3 := nw (tq_sub x (x / ((2 : Int32) + 1) * ((2 : Int32) + 1))) (by omega)
      have q4 := nw (tq_add (x / ((2 : Int32) + 1) * (2 : Int32)) (x - x / ((2 : Int32) + 1) * ((2 : Int32) + 1))) (by omega)
      omega
    · subst e
      have hc2 : c = 3 := Int32.toInt_inj.mp (hc.trans rfl)
      subst hc2
      have d1 : ((3 : Int32) + 1).toInt = 4 := rfl
      have d0 : (3 : Int32).toInt = 3 := rfl
      have q := dv_l (x := x) d1 (by omega) h
      have q1 := nw (tq_mulr d0 (x / ((3 : Int32) + 1))) (by omega)
      have q2 := nw (tq_mulr d1 (x / ((3 : Int32) + 1))) (by omega)
      have q3 := nw (tq_sub x (x / ((3 : Int32) + 1) * ((3 : Int32) + 1))) (by omega)
      have q4 := nw (tq_add (x / ((3 : Int32) + 1) * (3 : Int32)) (x - x / ((3 : Int32) + 1) * ((3 : Int32) + 1))) (by omega)
      omega
    · subst e
      have hc2 : c = 4 := Int32.toInt_inj.mp (hc.trans rfl)
      subst hc2
      have d1 : ((4 : Int32) + 1).toInt = 5 := rfl
      have d0 : (4 : Int32).toInt = 4 := rfl
      have q := dv_l (x := x) d1 (by omega) h
      have q1 := nw (tq_mulr d0 (x / ((4 : Int32) + 1))) (by omega)
      have q2 := nw (tq_mulr d1 (x / ((4 : Int32) + 1))) (by omega)
      have q3 := nw (tq_sub x (x / ((4 : Int32) + 1) * ((4 : Int32) + 1))) (by omega)
      have q4 := nw (tq_add (x / ((4 : Int32) + 1) * (4 : Int32)) (x - x / ((4 : Int32) + 1) * ((4 : Int32) + 1))) (by omega)
      omega
    · subst e
      have hc2 : c = 5 := Int32.toInt_inj.mp (hc.trans rfl)
      subst hc2
      have d1 : ((5 : Int32) + 1).toInt = 6 := rfl
      have d0 : (5 : Int32).toInt = 5 := rfl
      have q := dv_l (x := x) d1 (by omega) h
      have q1 := nw (tq_mulr d0 (x / ((5 : Int32) + 1))) (by omega)
      have q2 := nw (tq_mulr d1 (x / ((5 : Int32) + 1))) (by omega)
      have q3 := nw (tq_sub x (x / ((5 : Int32) + 1) * ((5 : Int32) + 1))) (by omega)
      have q4 := nw (tq_add (x / ((5 : Int32) + 1) * (5 : Int32)) (x - x / ((5 : Int32) + 1) * ((5 : Int32) + 1))) (by omega)
      omega
    · subst e
      have hc2 : c = 6 := Int32.toInt_inj.mp (hc.trans rfl)
      subst hc2
      have d1 : ((6 : Int32) + 1).toInt = 7 := rfl
      have d0 : (6 : Int32).toInt = 6 := rfl
      have q := dv_l (x := x) d1 (by omega) h
      have q1 := nw (tq_mulr d0 (x / ((6 : Int32) + 1))) (by omega)
      have q2 := nw (tq_mulr d1 (x / ((6 : Int32) + 1))) (by omega)
      have q3 := nw (tq_sub x (x / ((6 : Int32) + 1) * ((6 : Int32) + 1))) (by omega)
      have q4 := nw (tq_add (x / ((6 : Int32) + 1) * (6 : Int32)) (x - x / ((6 : Int32) + 1) * ((6 : Int32) + 1))) (by omega)
      omega
    · subst e
      have hc2 : c = 7 := Int32.toInt_inj.mp (hc.trans rfl)
      subst hc2
      have d1 : ((7 : Int32) + 1).toInt = 8 := rfl
      have d0 : (7 : Int32).toInt = 7 := rfl
      have q := dv_l (x := x) d1 (by omega) h
      have q1 := nw (tq_mulr d0 (x / ((7 : Int32) + 1))) (by omega)
      have q2 := nw (tq_mulr d1 (x / ((7 : Int32) + 1))) (by omega)
      have q3 := nw (tq_sub x (x / ((7 : Int32) + 1) * ((7 : Int32) + 1))) (by omega)
      have q4 := nw (tq_add (x / ((7 : Int32) + 1) * (7 : Int32)) (x - x / ((7 : Int32) + 1) * ((7 : Int32) + 1))) (by omega)
      omega
    · subst e
      have hc2 : c = 8 := Int32.toInt_inj.mp (hc.trans rfl)
      subst hc2
      have d1 : ((8 : Int32) + 1).toInt = 9 := rfl
      have d0 : (8 : Int32).toInt = 8 := rfl
      have q := dv_l (x := x) d1 (by omega) h
      have q1 := nw (tq_mulr d0 (x / ((8 : Int32) + 1))) (by omega)
      have q2 := nw (tq_mulr d1 (x / ((8 : Int32) + 1))) (by omega)
      have q3 := nw (tq_sub x (x / ((8 : Int32) + 1) * ((8 : Int32) + 1))) (by omega)
      have q4 := nw (tq_add (x / ((8 : Int32) + 1) * (8 : Int32)) (x - x / ((8 : Int32) + 1) * ((8 : Int32) + 1))) (by omega)
      omega
    · subst e
      have hc2 : c = 9 := Int32.toInt_inj.mp (hc.trans rfl)
      subst hc2
      have d1 : ((9 : Int32) + 1).toInt = 10 := rfl
      have d0 : (9 : Int32).toInt = 9 := rfl
      have q := dv_l (x := x) d1 (by omega) h
      have q1 := nw (tq_mulr d0 (x / ((9 : Int32) + 1))) (by omega)
      have q2 := nw (tq_mulr d1 (x / ((9 : Int32) + 1))) (by omega)
      have q3 := nw (tq_sub x (x / ((9 : Int32) + 1) * ((9 : Int32) + 1))) (by omega)
      have q4 := nw (tq_add (x / ((9 : Int32) + 1) * (9 : Int32)) (x - x / ((9 : Int32) + 1) * ((9 : Int32) + 1))) (by omega)
      omega
    · subst e
      have hc2 : c = 10 := Int32.toInt_inj.mp (hc.trans rfl)
      subst hc2
      have d1 : ((10 : Int32) + 1).toInt = 11 := rfl
      have d0 : (10 : Int32).toInt = 10 := rfl
      have q := dv_l (x := x) d1 (by omega) h
      have q1 := nw (tq_mulr d0 (x / ((10 : Int32) + 1))) (by omega)
      have q2 := nw (tq_mulr d1 (x / ((10 : Int32) + 1))) (by omega)
      have q3 := nw (tq_sub x (x / ((10 : Int32) + 1) * ((10 : Int32) + 1))) (by omega)
      have q4 := nw (tq_add (x / ((10 : Int32) + 1) * (10 : Int32)) (x - x / ((10 : Int32) + 1) * ((10 : Int32) + 1))) (by omega)
      omega
  exact key w W hw hp.2.2.1 hp.2.2.2.1 hp.2.2.2.2 h2
theorem wq_X6_letter {post : Int32 → Prop} {s2 : Bd} {x1 : Int32} {x2 : Int32} {R W : Int} (h3982 : bi (R) (W) s2) (k : ∀ (r : Int32), post r) : wp_X6_letter post s2 x1 x2 := by
  unfold wp_X6_letter
  have := h3982.1
  have := h3982.2.1
  have := h3982.2.2.1
  have := h3982.2.2.2.1
  have := h3982.2.2.2.2.2.2.2.2.2
  refine ⟨fun c3983 => ?_, fun c3984 => ?_⟩
  · replace c3983 := q_lt c3983
    rw [li_0] at c3983
    exact k _
  · replace c3984 := q_nlt c3984
    rw [li_0] at c3984
    refine ⟨fun c3985 => ?_, fun c3986 => ?_⟩
    · replace c3985 := q_lt c3985
      rw [li_1] at c3985
      exact k _
    · replace c3986 := q_nlt c3986
      rw [li_1] at c3986
      refine ⟨fun c3987 => ?_, fun c3988 => ?_⟩
      · replace c3987 := q_le c3987
        rw [li_m1] at c3987
        refine wq_X0_isThere h3982 (fun r_4 q3989 => ?_)
        refine ⟨fun c3990 => ?_, fun c3991 => ?_⟩
        · replace c3990 := q_eq c3990
          rw [li_0] at c3990
          refine ⟨fun c3992 => ?_, fun c3993 => ?_⟩
          · replace c3992 := q_neq c3992
            rw [li_m1] at c3992
            refine ⟨fun c3994 => ?_, fun c3995 => ?_⟩
            · replace c3994 := q_lt c3994
              rw [li_0] at c3994
              have e3996 := tq_addr li_1 (s2.1 1)
              try rw [Int.emod_eq_of_lt (show 0 ≤ (s2.1 1).toInt + 1 + 2147483648 by omega) (show (s2.1 1).toInt + 1 + 2147483648 < 4294967296 by omega)] at e3996
              refine ⟨(z_ne (by have := li_0; omega)), ?_⟩
              refine ⟨fun c3997 => ?_, fun c3998 => ?_⟩
              · replace c3997 := q_neq c3997
                have e3999 := tq_sub x2 ((x2 / ((s2.1 1) + 1)) * ((s2.1 1) + 1))
                try rw [Int.emod_eq_of_lt (show 0 ≤ (x2).toInt - ((x2 / ((s2.1 1) + 1)) * ((s2.1 1) + 1)).toInt + 2147483648 by omega) (show (x2).toInt - ((x2 / ((s2.1 1) + 1)) * ((s2.1 1) + 1)).toInt + 2147483648 < 4294967296 by omega)] at e3999
                refine ⟨(z_ne (by have := li_0; omega)), ?_⟩
                refine ⟨fun c4000 => ?_, fun c4001 => ?_⟩
                · replace c4000 := q_neq c4000
                  rw [li_0] at c4000
                  have e4002 := tq_add ((x2 / ((s2.1 1) + 1)) * (s2.1 1)) (x2 - ((x2 / ((s2.1 1) + 1)) * ((s2.1 1) + 1)))
                  try rw [Int.emod_eq_of_lt (show 0 ≤ ((x2 / ((s2.1 1) + 1)) * (s2.1 1)).toInt + (x2 - ((x2 / ((s2.1 1) + 1)) * ((s2.1 1) + 1))).toInt + 2147483648 by omega) (show ((x2 / ((s2.1 1) + 1)) * (s2.1 1)).toInt + (x2 - ((x2 / ((s2.1 1) + 1)) * ((s2.1 1) + 1))).toInt + 2147483648 < 4294967296 by omega)] at e4002
                  have := let_b (x := x2) (w := s2.1 1) (R := R) (W := W) (by omega) (by omega) (by omega) (by omega)
                  have v4003 : vp_in (((x2 / ((s2.1 1) + 1)) * (s2.1 1)) + (x2 - ((x2 / ((s2.1 1) + 1)) * ((s2.1 1) + 1)))) 40 := vi (by omega) (by omega)
                  refine ⟨v4003, ?_⟩
                  have p4004 : 0 ≤ (((x2 / ((s2.1 1) + 1)) * (s2.1 1)) + (x2 - ((x2 / ((s2.1 1) + 1)) * ((s2.1 1) + 1)))).toInt ∧ (((x2 / ((s2.1 1) + 1)) * (s2.1 1)) + (x2 - ((x2 / ((s2.1 1) + 1)) * ((s2.1 1) + 1)))).toInt < 40 := by omega
                  refine wq_X0_signOn h3982 p4004 (fun r_14 => ?_)
                  exact k _
                · replace c4001 := q_eq c4001
                  rw [li_0] at c4001
                  have e4005 := tq_add ((x2 / ((s2.1 1) + 1)) * (s2.1 1)) (x2 - ((x2 / ((s2.1 1) + 1)) * ((s2.1 1) + 1)))
                  try rw [Int.emod_eq_of_lt (show 0 ≤ ((x2 / ((s2.1 1) + 1)) * (s2.1 1)).toInt + (x2 - ((x2 / ((s2.1 1) + 1)) * ((s2.1 1) + 1))).toInt + 2147483648 by omega) (show ((x2 / ((s2.1 1) + 1)) * (s2.1 1)).toInt + (x2 - ((x2 / ((s2.1 1) + 1)) * ((s2.1 1) + 1))).toInt + 2147483648 < 4294967296 by omega)] at e4005
                  have := let_b (x := x2) (w := s2.1 1) (R := R) (W := W) (by omega) (by omega) (by omega) (by omega)
                  have v4006 : vp_in (((x2 / ((s2.1 1) + 1)) * (s2.1 1)) + (x2 - ((x2 / ((s2.1 1) + 1)) * ((s2.1 1) + 1)))) 40 := vi (by omega) (by omega)
                  refine ⟨v4006, ?_⟩
                  have p4007 : 0 ≤ (((x2 / ((s2.1 1) + 1)) * (s2.1 1)) + (x2 - ((x2 / ((s2.1 1) + 1)) * ((s2.1 1) + 1)))).toInt ∧ (((x2 / ((s2.1 1) + 1)) * (s2.1 1)) + (x2 - ((x2 / ((s2.1 1) + 1)) * ((s2.1 1) + 1)))).toInt < 40 := by omega
                  refine wq_X0_signOn h3982 p4007 (fun r_17 => ?_)
                  exact k _
              · replace c3998 := q_eq c3998
                have e4008 := tq_sub x2 ((x2 / ((s2.1 1) + 1)) * ((s2.1 1) + 1))
                try rw [Int.emod_eq_of_lt (show 0 ≤ (x2).toInt - ((x2 / ((s2.1 1) + 1)) * ((s2.1 1) + 1)).toInt + 2147483648 by omega) (show (x2).toInt - ((x2 / ((s2.1 1) + 1)) * ((s2.1 1) + 1)).toInt + 2147483648 < 4294967296 by omega)] at e4008
                exact k _
            · replace c3995 := q_nlt c3995
              rw [li_0] at c3995
              exact k _
          · replace c3993 := q_eq c3993
            rw [li_m1] at c3993
            exact k _
        · replace c3991 := q_neq c3991
          rw [li_0] at c3991
          refine wq_X0_cells h3982 (fun r_19 q4009 => ?_)
          refine ⟨fun c4010 => ?_, fun c4011 => ?_⟩
          · replace c4010 := q_neq c4010
            rw [li_m1] at c4010
            refine ⟨fun c4012 => ?_, fun c4013 => ?_⟩
            · replace c4012 := q_lt c4012
              have e4014 := tq_add r_19 (s2.1 0)
              try rw [Int.emod_eq_of_lt (show 0 ≤ (r_19).toInt + (s2.1 0).toInt + 2147483648 by omega) (show (r_19).toInt + (s2.1 0).toInt + 2147483648 < 4294967296 by omega)] at e4014
              have e4015 := tq_subr li_1 (r_19 + (s2.1 0))
              try rw [Int.emod_eq_of_lt (show 0 ≤ (r_19 + (s2.1 0)).toInt - 1 + 2147483648 by omega) (show (r_19 + (s2.1 0)).toInt - 1 + 2147483648 < 4294967296 by omega)] at e4015
              have e4016 := tq_addr li_1 (s2.1 1)
              try rw [Int.emod_eq_of_lt (show 0 ≤ (s2.1 1).toInt + 1 + 2147483648 by omega) (show (s2.1 1).toInt + 1 + 2147483648 < 4294967296 by omega)] at e4016
              refine ⟨(z_ne (by have := li_0; omega)), ?_⟩
              refine ⟨fun c4017 => ?_, fun c4018 => ?_⟩
              · replace c4017 := q_neq c4017
                have e4019 := tq_sub x2 ((x2 / ((s2.1 1) + 1)) * ((s2.1 1) + 1))
                try rw [Int.emod_eq_of_lt (show 0 ≤ (x2).toInt - ((x2 / ((s2.1 1) + 1)) * ((s2.1 1) + 1)).toInt + 2147483648 by omega) (show (x2).toInt - ((x2 / ((s2.1 1) + 1)) * ((s2.1 1) + 1)).toInt + 2147483648 < 4294967296 by omega)] at e4019
                refine ⟨(z_ne (by have := li_0; omega)), ?_⟩
                refine ⟨fun c4020 => ?_, fun c4021 => ?_⟩
                · replace c4020 := q_neq c4020
                  rw [li_0] at c4020
                  have e4022 := tq_add ((x2 / ((s2.1 1) + 1)) * (s2.1 1)) (x2 - ((x2 / ((s2.1 1) + 1)) * ((s2.1 1) + 1)))
                  try rw [Int.emod_eq_of_lt (show 0 ≤ ((x2 / ((s2.1 1) + 1)) * (s2.1 1)).toInt + (x2 - ((x2 / ((s2.1 1) + 1)) * ((s2.1 1) + 1))).toInt + 2147483648 by omega) (show ((x2 / ((s2.1 1) + 1)) * (s2.1 1)).toInt + (x2 - ((x2 / ((s2.1 1) + 1)) * ((s2.1 1) + 1))).toInt + 2147483648 < 4294967296 by omega)] at e4022
                  have := let_b (x := x2) (w := s2.1 1) (R := R) (W := W) (by omega) (by omega) (by omega) (by omega)
                  have v4023 : vp_in (((x2 / ((s2.1 1) + 1)) * (s2.1 1)) + (x2 - ((x2 / ((s2.1 1) + 1)) * ((s2.1 1) + 1)))) 40 := vi (by omega) (by omega)
                  refine ⟨v4023, ?_⟩
                  have p4024 : 0 ≤ (((x2 / ((s2.1 1) + 1)) * (s2.1 1)) + (x2 - ((x2 / ((s2.1 1) + 1)) * ((s2.1 1) + 1)))).toInt ∧ (((x2 / ((s2.1 1) + 1)) * (s2.1 1)) + (x2 - ((x2 / ((s2.1 1) + 1)) * ((s2.1 1) + 1)))).toInt < 40 := by omega
                  refine wq_X0_signOn h3982 p4024 (fun r_28 => ?_)
                  exact k _
                · replace c4021 := q_eq c4021
                  rw [li_0] at c4021
                  have e4025 := tq_add ((x2 / ((s2.1 1) + 1)) * (s2.1 1)) (x2 - ((x2 / ((s2.1 1) + 1)) * ((s2.1 1) + 1)))
                  try rw [Int.emod_eq_of_lt (show 0 ≤ ((x2 / ((s2.1 1) + 1)) * (s2.1 1)).toInt + (x2 - ((x2 / ((s2.1 1) + 1)) * ((s2.1 1) + 1))).toInt + 2147483648 by omega) (show ((x2 / ((s2.1 1) + 1)) * (s2.1 1)).toInt + (x2 - ((x2 / ((s2.1 1) + 1)) * ((s2.1 1) + 1))).toInt + 2147483648 < 4294967296 by omega)] at e4025
                  have := let_b (x := x2) (w := s2.1 1) (R := R) (W := W) (by omega) (by omega) (by omega) (by omega)
                  have v4026 : vp_in (((x2 / ((s2.1 1) + 1)) * (s2.1 1)) + (x2 - ((x2 / ((s2.1 1) + 1)) * ((s2.1 1) + 1)))) 40 := vi (by omega) (by omega)
                  refine ⟨v4026, ?_⟩
                  have p4027 : 0 ≤ (((x2 / ((s2.1 1) + 1)) * (s2.1 1)) + (x2 - ((x2 / ((s2.1 1) + 1)) * ((s2.1 1) + 1)))).toInt ∧ (((x2 / ((s2.1 1) + 1)) * (s2.1 1)) + (x2 - ((x2 / ((s2.1 1) + 1)) * ((s2.1 1) + 1)))).toInt < 40 := by omega
                  refine wq_X0_signOn h3982 p4027 (fun r_31 => ?_)
                  exact k _
              · replace c4018 := q_eq c4018
                have e4028 := tq_sub x2 ((x2 / ((s2.1 1) + 1)) * ((s2.1 1) + 1))
                try rw [Int.emod_eq_of_lt (show 0 ≤ (x2).toInt - ((x2 / ((s2.1 1) + 1)) * ((s2.1 1) + 1)).toInt + 2147483648 by omega) (show (x2).toInt - ((x2 / ((s2.1 1) + 1)) * ((s2.1 1) + 1)).toInt + 2147483648 < 4294967296 by omega)] at e4028
                exact k _
            · replace c4013 := q_nlt c4013
              have e4029 := tq_add r_19 (s2.1 0)
              try rw [Int.emod_eq_of_lt (show 0 ≤ (r_19).toInt + (s2.1 0).toInt + 2147483648 by omega) (show (r_19).toInt + (s2.1 0).toInt + 2147483648 < 4294967296 by omega)] at e4029
              have e4030 := tq_subr li_1 (r_19 + (s2.1 0))
              try rw [Int.emod_eq_of_lt (show 0 ≤ (r_19 + (s2.1 0)).toInt - 1 + 2147483648 by omega) (show (r_19 + (s2.1 0)).toInt - 1 + 2147483648 < 4294967296 by omega)] at e4030
              exact k _
          · replace c4011 := q_eq c4011
            rw [li_m1] at c4011
            exact k _
      · replace c3988 := q_nle c3988
        rw [li_m1] at c3988
        exact k _

theorem ob_some {B : Bd} {R W : Int} (h : bi R W B) : ob (some B) := fun B2 e => by
  cases e
  exact ⟨R, W, h⟩
theorem ob_up {P : Nat → Option Bd} {i : Nat} {o : Option Bd} (h : ∀ k, ob (P k)) (ho : ob o) : ∀ k, ob (va_up P i o k) := fun k => by
  unfold va_up
  by_cases e : k = i
  · rw [if_pos e]
    exact ho
  · rw [if_neg e]
    exact h k
theorem fr_bi : bi 0 0 fr_B := by
  refine ⟨rfl, rfl, ⟨by decide, by decide⟩, by omega, ?_, ?_, ?_, ?_, ?_, by decide⟩
  · intro k _
    show 0 ≤ (0 : Int32).toInt ∧ (0 : Int32).toInt ≤ 40
    decide
  · intro k _
    show 0 ≤ (0 : Int32).toInt ∧ (0 : Int32).toInt ≤ 3
    decide
  · intro k _
    show 0 ≤ (0 : Int32).toInt ∧ (0 : Int32).toInt ≤ 39
    decide
  · intro k _
    show 0 ≤ (0 : Int32).toInt ∧ (0 : Int32).toInt ≤ 39
    decide
  · intro k _
    show 0 ≤ (0 : Int32).toInt ∧ (0 : Int32).toInt ≤ 39
    decide
theorem rem10 {x : Int32} (h : 0 ≤ x.toInt ∧ x.toInt ≤ 100) : (x - x / 10 * 10).toInt = x.toInt % 10 := by
  have e10 : (10 : Int32).toInt = 10 := rfl
  have e1 := tq_sub x (x / 10 * 10)
  have e2 := tq_mulr e10 (x / 10)
  have e3 : (x / 10).toInt = x.toInt / 10 := by
    rw [Int32.toInt_div, bm32, e10, Int.tdiv_eq_ediv_of_nonneg h.1]
    omega
  omega
theorem wq_X3_push {post : Pa → Prop} {s0 : Pa} {s1 : Bd} {R W : Int} (h0 : pa s0) (h1 : bi R W s1) (k : ∀ u : Pa, pa u → post u) : wp_X3_push post s0 s1 := by
  unfold wp_X3_push
  have d := h0.1
  have e1 : (1 : Int32).toInt = 1 := rfl
  have e10 : (10 : Int32).toInt = 10 := rfl
  have a1 := tq_add (s0.1 1) 1
  have a2 := tq_add (s0.1 0) 1
  have a3 := rem10 (x := s0.1 1 + 1) (by omega)
  have a4 := tq_ite (a := 10) (b := s0.1 0 + 1) (x := 10) (y := s0.1 0 + 1)
  have nn : ∀ P : Nat → Option Bd, (∀ k, ob (P k)) → pa ((va_up (va_up s0.1 0 (if 10 < ((s0.1 0) + 1) then 10 else ((s0.1 0) + 1))) 1 (((s0.1 1) + 1) - ((s0.1 1) + 1) / 10 * 10)), P) := fun P hP => ⟨by
    show 0 ≤ (if 10 < ((s0.1 0) + 1) then 10 else ((s0.1 0) + 1)).toInt ∧ (if 10 < ((s0.1 0) + 1) then 10 else ((s0.1 0) + 1)).toInt ≤ 10 ∧ 0 ≤ (((s0.1 1) + 1) - ((s0.1 1) + 1) / 10 * 10).toInt ∧ (((s0.1 1) + 1) - ((s0.1 1) + 1) / 10 * 10).toInt ≤ 9
    omega, hP⟩
  refine ⟨vi (by omega) (by omega), ?_⟩
  split
  · exact wq_X0_copyAll fr_bi h1 (fun u hu => k _ (nn _ (ob_up h0.2 (ob_some hu))))
  · rename_i B hB
    obtain ⟨R2, W2, hb⟩ := h0.2 _ B hB
    exact wq_X0_copyAll hb h1 (fun u hu => k _ (nn _ (ob_up h0.2 (ob_some hu))))
theorem wq_X3_pop {post : Int32 → Pa → Bd → Prop} {s0 : Pa} {s1 : Bd} {R W : Int} (h0 : pa s0) (h1 : bi R W s1) (k : ∀ (r : Int32) (ua : Pa) (ub : Bd) (R4 W4 : Int), pa ua → bi R4 W4 ub → post r ua ub) : wp_X3_pop post s0 s1 := by
  unfold wp_X3_pop
  have d := h0.1
  have e0 : (0 : Int32).toInt = 0 := rfl
  have e1 : (1 : Int32).toInt = 1 := rfl
  have e10 : (10 : Int32).toInt = 10 := rfl
  have a1 := tq_add (s0.1 1) 10
  have a2 := tq_sub (s0.1 1 + 10) 1
  have a5 := tq_sub (s0.1 0) 1
  have a3 := rem10 (x := s0.1 1 + 10 - 1) (by omega)
  refine ⟨fun c => ?_, fun c => k _ _ _ R W h0 h1⟩
  have c2 := q_neq c
  have nn : pa ((va_up (va_up s0.1 0 ((s0.1 0) - 1)) 1 ((((s0.1 1) + 10) - 1) - (((s0.1 1) + 10) - 1) / 10 * 10)), s0.2) := ⟨by
    show 0 ≤ ((s0.1 0) - 1).toInt ∧ ((s0.1 0) - 1).toInt ≤ 10 ∧ 0 ≤ ((((s0.1 1) + 10) - 1) - (((s0.1 1) + 10) - 1) / 10 * 10).toInt ∧ ((((s0.1 1) + 10) - 1) - (((s0.1 1) + 10) - 1) / 10 * 10).toInt ≤ 9
    omega, h0.2⟩
  refine ⟨vi (by omega) (by omega), ?_⟩
  split
  · exact k _ _ _ R W nn h1
  · rename_i B hB
    obtain ⟨R2, W2, hb⟩ := h0.2 _ B hB
    exact wq_X0_copyAll h1 hb (fun u hu => k _ _ _ R2 W2 nn hu)
theorem wq_X6_row {post : Int32 → Tp → Bd → Pa → Prop} {s1 : Tp} {s2 : Bd} {s6 : Pa} {x1 : Int32} {N R W : Int} (h4031 : tz (N) s1) (h4032 : bi (R) (W) s2) (h4033 : pa s6) (k : ∀ (r : Int32) (ua : Tp) (ub : Bd) (uc : Pa), tz ((0 : Int)) ua → bi (R) (W) ub → pa uc → post r ua ub uc) : wp_X6_row post s1 s2 s6 x1 := by
  unfold wp_X6_row
  have := h4031.1
  have := h4031.2
  have := h4032.1
  have := h4032.2.1
  have := h4032.2.2.1
  have := h4032.2.2.2.1
  have := h4032.2.2.2.2.2.2.2.2.2
  have := h4033.1
  refine wq_X6_whyNotRow h4031 h4032 (fun r_1 q4034 => ?_)
  refine ⟨fun c4035 => ?_, fun c4036 => ?_⟩
  · replace c4035 := q_neq c4035
    rw [li_0] at c4035
    have p4037 : (0 : Int32).toInt = (0 : Int) := by (have := li_0; omega)
    have p4038 : 0 ≤ (0 : Int) ∧ (0 : Int) ≤ 400 := by omega
    have B4039 : tz ((0 : Int)) ((va_up s1.1 0 0), s1.2) := ⟨p4037, p4038⟩
    exact k _ _ _ _ B4039 h4032 h4033
  · replace c4036 := q_eq c4036
    rw [li_0] at c4036
    refine wq_X3_push h4033 h4032 (fun s_6 q4040 => ?_)
    have := q4040.1
    have p4041 : 0 ≤ (x1).toInt ∧ (x1).toInt < R := by omega
    refine wq_X0_wantSigns h4032 h4031 p4041 (fun r_10 u_11 q4042 => ?_)
    have := q4042.1
    have := q4042.2.1
    have := q4042.2.2.1
    have := q4042.2.2.2.2.2.2.2.2.2
    have p4043 : (0 : Int32).toInt = (0 : Int) := by (have := li_0; omega)
    have p4044 : 0 ≤ (0 : Int) ∧ (0 : Int) ≤ 400 := by omega
    have B4045 : tz ((0 : Int)) ((va_up s1.1 0 0), s1.2) := ⟨p4043, p4044⟩
    exact k _ _ _ _ B4045 q4042 q4040
theorem wq_X6_scroll {post : Int32 → Tp → Bd → Pa → Prop} {s1 : Tp} {s2 : Bd} {s6 : Pa} {N R W : Int} (h4046 : tz (N) s1) (h4047 : bi (R) (W) s2) (h4048 : pa s6) (k : ∀ (r : Int32) (ua : Tp) (ub : Bd) (uc : Pa), tz ((0 : Int)) ua → bi (R) (W) ub → pa uc → post r ua ub uc) : wp_X6_scroll post s1 s2 s6 := by
  unfold wp_X6_scroll
  have := h4046.1
  have := h4046.2
  have := h4047.1
  have := h4047.2.1
  have := h4047.2.2.1
  have := h4047.2.2.2.1
  have := h4047.2.2.2.2.2.2.2.2.2
  have := h4048.1
  refine wq_X6_whyNotRow h4046 h4047 (fun r_1 q4049 => ?_)
  have e4050 := tq_subr li_1 (s2.1 0)
  try rw [Int.emod_eq_of_lt (show 0 ≤ (s2.1 0).toInt - 1 + 2147483648 by omega) (show (s2.1 0).toInt - 1 + 2147483648 < 4294967296 by omega)] at e4050
  refine ⟨fun c4051 => ?_, fun c4052 => ?_⟩
  · replace c4051 := q_neq c4051
    rw [li_0] at c4051
    have p4053 : (0 : Int32).toInt = (0 : Int) := by (have := li_0; omega)
    have p4054 : 0 ≤ (0 : Int) ∧ (0 : Int) ≤ 400 := by omega
    have B4055 : tz ((0 : Int)) ((va_up s1.1 0 0), s1.2) := ⟨p4053, p4054⟩
    exact k _ _ _ _ B4055 h4047 h4048
  · replace c4052 := q_eq c4052
    rw [li_0] at c4052
    refine wq_X3_push h4048 h4047 (fun s_6 q4056 => ?_)
    have := q4056.1
    have p4057 : 1 ≤ R := by omega
    refine wq_X0_scrollUp h4047 h4046 p4057 (fun r_10 u_11 q4058 => ?_)
    have := q4058.1
    have := q4058.2.1
    have := q4058.2.2.1
    have := q4058.2.2.2.2.2.2.2.2.2
    have p4059 : (0 : Int32).toInt = (0 : Int) := by (have := li_0; omega)
    have p4060 : 0 ≤ (0 : Int) ∧ (0 : Int) ≤ 400 := by omega
    have B4061 : tz ((0 : Int)) ((va_up s1.1 0 0), s1.2) := ⟨p4059, p4060⟩
    exact k _ _ _ _ B4061 q4058 q4056
theorem wq_X6_tick {post : Int32 → Bd → Mo → Pa → Prop} {s2 : Bd} {s4 : Mo} {s6 : Pa} {x1 : Int32} {R W : Int} (h4062 : bi (R) (W) s2) (h4063 : mo s4) (h4064 : pa s6) (k : ∀ (r : Int32) (ua : Bd) (ub : Mo) (uc : Pa), bi (R) (W) ua → mo ub → pa uc → post r ua ub uc) : wp_X6_tick post s2 s4 s6 x1 := by
  unfold wp_X6_tick
  have := h4062.1
  have := h4062.2.1
  have := h4062.2.2.1
  have := h4062.2.2.2.1
  have := h4062.2.2.2.2.2.2.2.2.2
  have := h4063.1
  have := h4064.1
  refine wq_X0_isThere h4062 (fun r_1 q4065 => ?_)
  refine ⟨fun c4066 => ?_, fun c4067 => ?_⟩
  · replace c4066 := q_eq c4066
    rw [li_0] at c4066
    exact k _ _ _ _ h4062 h4063 h4064
  · replace c4067 := q_neq c4067
    rw [li_0] at c4067
    refine ⟨fun c4068 => ?_, fun c4069 => ?_⟩
    · replace c4068 := q_lt c4068
      rw [li_1] at c4068
      exact k _ _ _ _ h4062 h4063 h4064
    · replace c4069 := q_nlt c4069
      rw [li_1] at c4069
      refine ⟨fun c4070 => ?_, fun c4071 => ?_⟩
      · replace c4070 := q_le c4070
        rw [li_99] at c4070
        refine wq_X3_push h4064 h4062 (fun s_8 q4072 => ?_)
        have := q4072.1
        have p4073 : 0 ≤ (x1).toInt ∧ (x1).toInt ≤ 9999 := by omega
        refine wq_X2_turn h4063 h4062 p4073 (fun u_13a u_13b q4074 q4075 => ?_)
        have := q4074.1
        have := q4075.1
        have := q4075.2.1
        have := q4075.2.2.1
        have := q4075.2.2.2.2.2.2.2.2.2
        exact k _ _ _ _ q4075 q4074 q4072
      · replace c4071 := q_nle c4071
        rw [li_99] at c4071
        exact k _ _ _ _ h4062 h4063 h4064
theorem wq_X6_settle {post : Int32 → Bd → Mo → Pa → Prop} {s2 : Bd} {s4 : Mo} {s6 : Pa} {R W : Int} (h4076 : bi (R) (W) s2) (h4077 : mo s4) (h4078 : pa s6) (k : ∀ (r : Int32) (ua : Bd) (ub : Mo) (uc : Pa), bi (R) (W) ua → mo ub → pa uc → post r ua ub uc) : wp_X6_settle post s2 s4 s6 := by
  unfold wp_X6_settle
  have := h4076.1
  have := h4076.2.1
  have := h4076.2.2.1
  have := h4076.2.2.2.1
  have := h4076.2.2.2.2.2.2.2.2.2
  have := h4077.1
  have := h4078.1
  refine wq_X0_isThere h4076 (fun r_1 q4079 => ?_)
  refine ⟨fun c4080 => ?_, fun c4081 => ?_⟩
  · replace c4080 := q_neq c4080
    rw [li_0] at c4080
    refine wq_X2_choose h4077 h4076 (fun u_5 q4082 => ?_)
    have := q4082.1
    refine ⟨fun c4083 => ?_, fun c4084 => ?_⟩
    · replace c4083 := q_neq c4083
      rw [li_0] at c4083
      refine wq_X3_push h4078 h4076 (fun s_9 q4085 => ?_)
      have := q4085.1
      have p4086 : 0 ≤ ((9999 : Int32)).toInt ∧ ((9999 : Int32)).toInt ≤ 9999 := by (have := li_9999; omega)
      refine wq_X2_turn q4082 h4076 p4086 (fun u_14a u_14b q4087 q4088 => ?_)
      have := q4087.1
      have := q4088.1
      have := q4088.2.1
      have := q4088.2.2.1
      have := q4088.2.2.2.2.2.2.2.2.2
      exact k _ _ _ _ q4088 q4087 q4085
    · replace c4084 := q_eq c4084
      rw [li_0] at c4084
      exact k _ _ _ _ h4076 q4082 h4078
  · replace c4081 := q_eq c4081
    rw [li_0] at c4081
    exact k _ _ _ _ h4076 h4077 h4078
theorem wq_X6_lose {post : Int32 → Bd → Pa → Prop} {s2 : Bd} {s6 : Pa} {x1 : Int32} {x2 : Int32} {R W : Int} (h4089 : bi (R) (W) s2) (h4090 : pa s6) (k : ∀ (r : Int32) (ua : Bd) (ub : Pa), bi (R) (W) ua → pa ub → post r ua ub) : wp_X6_lose post s2 s6 x1 x2 := by
  unfold wp_X6_lose
  have := h4089.1
  have := h4089.2.1
  have := h4089.2.2.1
  have := h4089.2.2.2.1
  have := h4089.2.2.2.2.2.2.2.2.2
  have := h4090.1
  refine wq_X0_hasCell h4089 (fun r_1 q4091 => ?_)
  refine ⟨fun c4092 => ?_, fun c4093 => ?_⟩
  · replace c4092 := q_eq c4092
    rw [li_0] at c4092
    exact k _ _ _ h4089 h4090
  · replace c4093 := q_neq c4093
    rw [li_0] at c4093
    refine ⟨fun c4094 => ?_, fun c4095 => ?_⟩
    · replace c4094 := q_lt c4094
      rw [li_0] at c4094
      exact k _ _ _ h4089 h4090
    · replace c4095 := q_nlt c4095
      rw [li_0] at c4095
      refine ⟨fun c4096 => ?_, fun c4097 => ?_⟩
      · replace c4096 := q_le c4096
        rw [li_9] at c4096
        have v4098 : vp_in x1 40 := vi (by omega) (by omega)
        refine ⟨v4098, ?_⟩
        refine ⟨fun c4099 => ?_, fun c4100 => ?_⟩
        · replace c4099 := q_neq c4099
          refine wq_X3_push h4090 h4089 (fun s_10 q4101 => ?_)
          have := q4101.1
          refine wq_X0_setLost h4089 (fun u_15 q4102 => ?_)
          have := q4102.1
          have := q4102.2.1
          have := q4102.2.2.1
          have := q4102.2.2.2.2.2.2.2.2.2
          exact k _ _ _ q4102 q4101
        · replace c4100 := q_eq c4100
          exact k _ _ _ h4089 h4090
      · replace c4097 := q_nle c4097
        rw [li_9] at c4097
        exact k _ _ _ h4089 h4090
theorem wq_X6_wear {post : Int32 → Bd → Pa → Prop} {s2 : Bd} {s6 : Pa} {x1 : Int32} {x2 : Int32} {R W : Int} (h4103 : bi (R) (W) s2) (h4104 : pa s6) (k : ∀ (r : Int32) (ua : Bd) (ub : Pa), bi (R) (W) ua → pa ub → post r ua ub) : wp_X6_wear post s2 s6 x1 x2 := by
  unfold wp_X6_wear
  have := h4103.1
  have := h4103.2.1
  have := h4103.2.2.1
  have := h4103.2.2.2.1
  have := h4103.2.2.2.2.2.2.2.2.2
  have := h4104.1
  refine wq_X0_hasFlap h4103 (fun r_1 q4105 => ?_)
  refine ⟨fun c4106 => ?_, fun c4107 => ?_⟩
  · replace c4106 := q_eq c4106
    rw [li_0] at c4106
    exact k _ _ _ h4103 h4104
  · replace c4107 := q_neq c4107
    rw [li_0] at c4107
    refine ⟨fun c4108 => ?_, fun c4109 => ?_⟩
    · replace c4108 := q_neq c4108
      rw [li_0] at c4108
      have p4110 : 0 ≤ (x1).toInt ∧ (x1).toInt < 40 := by omega
      refine wq_X0_isWorn h4103 p4110 (fun r_5 q4111 => ?_)
      refine ⟨fun c4112 => ?_, fun c4113 => ?_⟩
      · replace c4112 := q_eq c4112
        rw [li_0] at c4112
        refine wq_X3_push h4104 h4103 (fun s_10 q4114 => ?_)
        have := q4114.1
        have p4115 : 0 ≤ (x1).toInt ∧ (x1).toInt < 40 := by omega
        refine wq_X0_wearFlap h4103 p4115 (fun u_15 q4116 => ?_)
        have := q4116.1
        have := q4116.2.1
        have := q4116.2.2.1
        have := q4116.2.2.2.2.2.2.2.2.2
        have p4117 : 0 ≤ (x1).toInt ∧ (x1).toInt < 40 := by omega
        refine wq_X0_wornCount q4116 p4117 (fun r_16 => ?_)
        exact k _ _ _ q4116 q4114
      · replace c4113 := q_neq c4113
        rw [li_0] at c4113
        exact k _ _ _ h4103 h4104
    · replace c4109 := q_eq c4109
      rw [li_0] at c4109
      exact k _ _ _ h4103 h4104
theorem wq_X6_mend {post : Int32 → Bd → Pa → Prop} {s2 : Bd} {s6 : Pa} {x1 : Int32} {x2 : Int32} {R W : Int} (h4118 : bi (R) (W) s2) (h4119 : pa s6) (k : ∀ (r : Int32) (ua : Bd) (ub : Pa), bi (R) (W) ua → pa ub → post r ua ub) : wp_X6_mend post s2 s6 x1 x2 := by
  unfold wp_X6_mend
  have := h4118.1
  have := h4118.2.1
  have := h4118.2.2.1
  have := h4118.2.2.2.1
  have := h4118.2.2.2.2.2.2.2.2.2
  have := h4119.1
  refine wq_X0_hasFlap h4118 (fun r_1 q4120 => ?_)
  refine ⟨fun c4121 => ?_, fun c4122 => ?_⟩
  · replace c4121 := q_neq c4121
    rw [li_0] at c4121
    have p4123 : 0 ≤ (x1).toInt ∧ (x1).toInt < 40 := by omega
    refine wq_X0_isWorn h4118 p4123 (fun r_4 q4124 => ?_)
    refine ⟨fun c4125 => ?_, fun c4126 => ?_⟩
    · replace c4125 := q_neq c4125
      rw [li_0] at c4125
      refine wq_X3_push h4119 h4118 (fun s_9 q4127 => ?_)
      have := q4127.1
      have p4128 : 0 ≤ (x1).toInt ∧ (x1).toInt < 40 := by omega
      refine wq_X0_mendFlap h4118 p4128 (fun u_14 q4129 => ?_)
      have := q4129.1
      have := q4129.2.1
      have := q4129.2.2.1
      have := q4129.2.2.2.2.2.2.2.2.2
      have p4130 : 0 ≤ (x1).toInt ∧ (x1).toInt < 40 := by omega
      refine wq_X0_wornCount q4129 p4130 (fun r_15 => ?_)
      exact k _ _ _ q4129 q4127
    · replace c4126 := q_eq c4126
      rw [li_0] at c4126
      exact k _ _ _ h4118 h4119
  · replace c4122 := q_eq c4122
    rw [li_0] at c4122
    exact k _ _ _ h4118 h4119
theorem wq_X6_limit {post : Int32 → Bd → Pa → Prop} {s2 : Bd} {s6 : Pa} {x1 : Int32} {R W : Int} (h4131 : bi (R) (W) s2) (h4132 : pa s6) (k : ∀ (r : Int32) (ua : Bd) (ub : Pa), bi (R) (W) ua → pa ub → post r ua ub) : wp_X6_limit post s2 s6 x1 := by
  unfold wp_X6_limit
  have := h4131.1
  have := h4131.2.1
  have := h4131.2.2.1
  have := h4131.2.2.2.1
  have := h4131.2.2.2.2.2.2.2.2.2
  have := h4132.1
  refine wq_X0_isThere h4131 (fun r_1 q4133 => ?_)
  refine ⟨fun c4134 => ?_, fun c4135 => ?_⟩
  · replace c4134 := q_eq c4134
    rw [li_0] at c4134
    exact k _ _ _ h4131 h4132
  · replace c4135 := q_neq c4135
    rw [li_0] at c4135
    refine ⟨fun c4136 => ?_, fun c4137 => ?_⟩
    · replace c4136 := q_lt c4136
      rw [li_1] at c4136
      exact k _ _ _ h4131 h4132
    · replace c4137 := q_nlt c4137
      rw [li_1] at c4137
      refine ⟨fun c4138 => ?_, fun c4139 => ?_⟩
      · replace c4138 := q_le c4138
        rw [li_99] at c4138
        refine ⟨fun c4140 => ?_, fun c4141 => ?_⟩
        · replace c4140 := q_neq c4140
          refine wq_X3_push h4132 h4131 (fun s_9 q4142 => ?_)
          have := q4142.1
          have p4143 : (s2.1 0).toInt = R := by omega
          have p4144 : (s2.1 1).toInt = W := by omega
          have p4145 : 0 ≤ (s2.1 3).toInt ∧ (s2.1 3).toInt ≤ 4 := by omega
          have p4146 : 0 ≤ R ∧ R ≤ 6 ∧ 0 ≤ W ∧ W ≤ 10 ∧ 0 ≤ R * W ∧ R * W ≤ 40 := by omega
          have p4147 : ar 4 (0) (40) (s2.2.1 1) := h4131.2.2.2.2.1
          have p4148 : ar 40 (0) (3) (s2.2.1 3) := h4131.2.2.2.2.2.1
          have p4149 : ar 40 (0) (39) (s2.2.1 4) := h4131.2.2.2.2.2.2.1
          have p4150 : ar 40 (0) (39) (s2.2.1 5) := h4131.2.2.2.2.2.2.2.1
          have p4151 : ar 40 (0) (39) (s2.2.1 6) := h4131.2.2.2.2.2.2.2.2.1
          have p4152 : s2.2.2.2.1 ≤ 6400 := by omega
          have B4153 : bi (R) (W) ((va_up s2.1 2 x1), s2.2.1, s2.2.2.1, s2.2.2.2.1, s2.2.2.2.2) := ⟨p4143, p4144, p4145, p4146, p4147, p4148, p4149, p4150, p4151, p4152⟩
          exact k _ _ _ B4153 q4142
        · replace c4141 := q_eq c4141
          exact k _ _ _ h4131 h4132
      · replace c4139 := q_nle c4139
        rw [li_99] at c4139
        exact k _ _ _ h4131 h4132

theorem wq_X6_exchange {post : Int32 → Bd → Pa → Prop} {s2 : Bd} {s6 : Pa} {x1 : Int32} {x2 : Int32} {x3 : Int32} {R W : Int} (h4154 : bi (R) (W) s2) (h4155 : pa s6) (k : ∀ (r : Int32) (ua : Bd) (ub : Pa), bi (R) (W) ua → pa ub → post r ua ub) : wp_X6_exchange post s2 s6 x1 x2 x3 := by
  unfold wp_X6_exchange
  have := h4154.1
  have := h4154.2.1
  have := h4154.2.2.1
  have := h4154.2.2.2.1
  have := h4154.2.2.2.2.2.2.2.2.2
  have := h4155.1
  refine wq_X0_isMovable h4154 (fun r_1 q4156 => ?_)
  refine ⟨fun c4157 => ?_, fun c4158 => ?_⟩
  · replace c4157 := q_eq c4157
    rw [li_0] at c4157
    exact k _ _ _ h4154 h4155
  · replace c4158 := q_neq c4158
    rw [li_0] at c4158
    refine wq_X0_isMovable h4154 (fun r_4 q4159 => ?_)
    refine ⟨fun c4160 => ?_, fun c4161 => ?_⟩
    · replace c4160 := q_eq c4160
      rw [li_0] at c4160
      exact k _ _ _ h4154 h4155
    · replace c4161 := q_neq c4161
      rw [li_0] at c4161
      refine ⟨fun c4162 => ?_, fun c4163 => ?_⟩
      · replace c4162 := q_neq c4162
        refine wq_X3_push h4155 h4154 (fun s_10 q4164 => ?_)
        have := q4164.1
        refine wq_X0_swapSigns h4154 (fun u_15 q4165 => ?_)
        have := q4165.1
        have := q4165.2.1
        have := q4165.2.2.1
        have := q4165.2.2.2.2.2.2.2.2.2
        refine wq_X0_emptyLog q4165 (fun b_18 q4166 => ?_)
        have := q4166.1
        have := q4166.2.1
        have := q4166.2.2.1
        have := q4166.2.2.2.2.2.2.2.2.2
        exact k _ _ _ q4166 q4164
      · replace c4163 := q_eq c4163
        exact k _ _ _ h4154 h4155
theorem wq_X6_run {post : Int32 → Tp → Bd → Mo → Pg → Pa → Prop} {s1 : Tp} {s2 : Bd} {s4 : Mo} {s5 : Pg} {s6 : Pa} {N R W : Int} (h1 : tz N s1) (h2 : bi R W s2) (h4 : mo s4) (h5 : pz s5) (h6 : pa s6) (k : ∀ (r : Int32) (ua : Tp) (ub : Bd) (uc : Mo) (ud : Pg) (ue : Pa), tz 0 ua → bi R W ub → mo uc → pz ud → pa ue → post r ua ub uc ud ue) : wp_X6_run post s1 s2 s4 s5 s6 := by
  unfold wp_X6_run
  have e0 : (0 : Int32).toInt = 0 := rfl
  refine wq_X6_whyNotProgram h1 h2 h5 (fun r ua ub ha hb hc => ?_)
  have t0 : tz 0 ((va_up ua.1 0 0), ua.2) := ⟨e0, by omega⟩
  refine ⟨fun c => k _ _ _ _ _ _ t0 h2 h4 hb h6, fun c => ?_⟩
  have c2 := q_eq c
  have g : pg R ub ∧ 1 ≤ R := by
    rcases hc with g | g
    · exact absurd (c2.trans e0) g
    · exact g
  refine wq_X3_push h6 h2 (fun s hs => ?_)
  exact wq_X6_doProgram ha h2 h4 g.1 g.2 (fun r2 va vb vc a1 a2 a3 => k _ _ _ _ _ _ t0 a1 a2 ⟨a3.1, a3.2.1⟩ hs)
theorem wq_X6_undo {post : Int32 → Bd → Pa → Prop} {s2 : Bd} {s6 : Pa} {R W : Int} (h4167 : bi (R) (W) s2) (h4168 : pa s6) (k : ∀ (r : Int32) (ua : Bd) (ub : Pa) (R4 W4 : Int), bi (R4) (W4) ua → pa ub → post r ua ub) : wp_X6_undo post s2 s6 := by
  unfold wp_X6_undo
  have := h4167.1
  have := h4167.2.1
  have := h4167.2.2.1
  have := h4167.2.2.2.1
  have := h4167.2.2.2.2.2.2.2.2.2
  have := h4168.1
  refine wq_X3_pop h4168 h4167 (fun r_2 s_3 b_6 R44169 W44170 q4171 q4172 => ?_)
  have := q4171.1
  have := q4172.1
  have := q4172.2.1
  have := q4172.2.2.1
  have := q4172.2.2.2.1
  have := q4172.2.2.2.2.2.2.2.2.2
  refine ⟨fun c4173 => ?_, fun c4174 => ?_⟩
  · replace c4173 := q_eq c4173
    rw [li_0] at c4173
    exact k _ _ _ (R44169) (W44170) q4172 q4171
  · replace c4174 := q_neq c4174
    rw [li_0] at c4174
    exact k _ _ _ (R44169) (W44170) q4172 q4171
theorem wq_X6_keep {post : Int32 → (Nat → Option Bd) → Prop} {s2 : Bd} {z7 : Nat → Option Bd} {x1 : Int32} {R W : Int} (h2 : bi R W s2) (h7 : ∀ k, ob (z7 k)) (k : ∀ (r : Int32) (u : Nat → Option Bd), (∀ k, ob (u k)) → post r u) : wp_X6_keep post s2 z7 x1 := by
  unfold wp_X6_keep
  have e0 : (0 : Int32).toInt = 0 := rfl
  refine wq_X6_isShelf (fun r hr => ⟨fun c => ?_, fun c => k _ _ h7⟩)
  have := q_neq c
  refine ⟨vi (by omega) (by omega), ?_⟩
  split
  · exact wq_X0_copyAll fr_bi h2 (fun u hu => wq_X0_cells h2 (fun r2 _ => k _ _ (ob_up h7 (ob_some hu))))
  · rename_i B hB
    obtain ⟨R2, W2, hb⟩ := h7 _ B hB
    exact wq_X0_copyAll hb h2 (fun u hu => wq_X0_cells h2 (fun r2 _ => k _ _ (ob_up h7 (ob_some hu))))
theorem wq_X6_back {post : Int32 → Bd → Pa → (Nat → Option Bd) → Prop} {s2 : Bd} {s6 : Pa} {z7 : Nat → Option Bd} {x1 : Int32} {R W : Int} (h2 : bi R W s2) (h6 : pa s6) (h7 : ∀ k, ob (z7 k)) (k : ∀ (r : Int32) (ua : Bd) (ub : Pa) (uc : Nat → Option Bd) (R4 W4 : Int), bi R4 W4 ua → pa ub → (∀ k, ob (uc k)) → ub.2 = s6.2 → post r ua ub uc) : wp_X6_back post s2 s6 z7 x1 := by
  unfold wp_X6_back
  have e0 : (0 : Int32).toInt = 0 := rfl
  have d := h6.1
  refine wq_X6_isShelf (fun r hr => ⟨fun c => ?_, fun c => k _ _ _ _ R W h2 h6 h7 rfl⟩)
  have := q_neq c
  have nn : pa ((va_up s6.1 0 0), s6.2) := ⟨by
    show 0 ≤ (0 : Int32).toInt ∧ (0 : Int32).toInt ≤ 10 ∧ 0 ≤ (s6.1 1).toInt ∧ (s6.1 1).toInt ≤ 9
    omega, h6.2⟩
  refine ⟨vi (by omega) (by omega), ?_⟩
  split
  · exact k _ _ _ _ R W h2 h6 h7 rfl
  · rename_i B hB
    obtain ⟨R2, W2, hb⟩ := h7 _ B hB
    exact wq_X0_copyAll h2 hb (fun u hu => wq_X0_cells hu (fun r2 _ => k _ _ _ _ R2 W2 hu nn h7 rfl))
theorem wq_X6_tell {post : Int32 → Tp → Bd → Bd → Pa → Prop} {s1 : Tp} {s2 : Bd} {s3 : Bd} {s6 : Pa} {N R W R3 W3 : Int} (h4175 : tz (N) s1) (h4176 : bi (R) (W) s2) (h4177 : bi (R3) (W3) s3) (h4178 : pa s6) (k : ∀ (r : Int32) (ua : Tp) (ub : Bd) (uc : Bd) (ud : Pa) (R4 W4 R5 W5 : Int), tz ((0 : Int)) ua → bi (R4) (W4) ub → bi (R5) (W5) uc → pa ud → ud.2 = s6.2 → post r ua ub uc ud) : wp_X6_tell post s1 s2 s3 s6 := by
  unfold wp_X6_tell
  have := h4175.1
  have := h4175.2
  have := h4176.1
  have := h4176.2.1
  have := h4176.2.2.1
  have := h4176.2.2.2.1
  have := h4176.2.2.2.2.2.2.2.2.2
  have := h4177.1
  have := h4177.2.1
  have := h4177.2.2.1
  have := h4177.2.2.2.1
  have := h4177.2.2.2.2.2.2.2.2.2
  have := h4178.1
  refine wq_X1_readInto h4177 h4175 (fun u_2a u_2b R24179 W24180 q4181 q4182 => ?_)
  have := q4181.1
  have := q4181.2.1
  have := q4181.2.2.1
  have := q4181.2.2.2.1
  have := q4181.2.2.2.2.2.2.2.2.2
  have := q4182.1
  have := q4182.2.1
  refine wq_X5_isSound (fun r_3 q4183 => ?_)
  replace q4183 : ((r_3).toInt = 1 ∧ (u_2b.1 5).toInt = 0) ∨ ((r_3).toInt = 0 ∧ (u_2b.1 5).toInt ≠ 0) := q4183
  refine ⟨fun c4184 => ?_, fun c4185 => ?_⟩
  · replace c4184 := q_neq c4184
    rw [li_0] at c4184
    refine wq_X0_copyAllButLog h4176 q4181 (fun u_7 q4186 q4187 => ?_)
    have := q4186.1
    have := q4186.2.1
    have := q4186.2.2.1
    have := q4186.2.2.2.2.2.2.2.2.2
    refine wq_X0_emptyLog q4186 (fun b_10 q4188 => ?_)
    have := q4188.1
    have := q4188.2.1
    have := q4188.2.2.1
    have := q4188.2.2.2.2.2.2.2.2.2
    have p4189 : (0 : Int32).toInt = (0 : Int) := by (have := li_0; omega)
    have p4190 : 0 ≤ (0 : Int) ∧ (0 : Int) ≤ 400 := by omega
    have B4191 : tz ((0 : Int)) ((va_up u_2b.1 0 0), u_2b.2) := ⟨p4189, p4190⟩
    have p4192 : 0 ≤ (0 : Int32).toInt ∧ (0 : Int32).toInt ≤ 10 ∧ 0 ≤ (s6.1 1).toInt ∧ (s6.1 1).toInt ≤ 9 := by (have := li_0; omega)
    have B4193 : pa ((va_up s6.1 0 0), s6.2) := ⟨p4192, h4178.2⟩
    have p4194 : s6.2 = s6.2 := by rfl
    exact k _ _ _ _ _ (R24179) (W24180) (R24179) (W24180) B4191 q4188 q4181 B4193 p4194
  · replace c4185 := q_eq c4185
    rw [li_0] at c4185
    have p4195 : (0 : Int32).toInt = (0 : Int) := by (have := li_0; omega)
    have p4196 : 0 ≤ (0 : Int) ∧ (0 : Int) ≤ 400 := by omega
    have B4197 : tz ((0 : Int)) ((va_up u_2b.1 0 0), u_2b.2) := ⟨p4195, p4196⟩
    have p4198 : s6.2 = s6.2 := by rfl
    exact k _ _ _ _ _ (R) (W) (R24179) (W24180) B4197 h4176 q4181 h4178 p4198
theorem wq_X6_shelvesUsed {post : Int32 → Prop} {z7 : Nat → Option Bd} (k : ∀ r : Int32, post r) : wp_X6_shelvesUsed post z7 := by
  unfold wp_X6_shelvesUsed
  split <;> split <;> exact k _
theorem wq_X6_count {post : Int32 → Mo → Pa → Prop} {s1 : Tp} {s2 : Bd} {s4 : Mo} {s6 : Pa} {z7 : Nat → Option Bd} {x1 : Int32} {N R W : Int} (h4199 : tz (N) s1) (h4200 : bi (R) (W) s2) (h4201 : mo s4) (h4202 : pa s6) (k : ∀ (r : Int32) (ua : Mo) (ub : Pa), mo ua → pa ub → ub.2 = s6.2 → post r ua ub) : wp_X6_count post s1 s2 s4 s6 z7 x1 := by
  unfold wp_X6_count
  have := h4199.1
  have := h4199.2
  have := h4200.1
  have := h4200.2.1
  have := h4200.2.2.1
  have := h4200.2.2.2.1
  have := h4200.2.2.2.2.2.2.2.2.2
  have := h4201.1
  have := h4202.1
  refine ⟨fun c4203 => ?_, fun c4204 => ?_⟩
  · replace c4203 := q_eq c4203
    rw [li_0] at c4203
    have p4205 : s6.2 = s6.2 := by rfl
    exact k _ _ _ h4201 h4202 p4205
  · replace c4204 := q_neq c4204
    rw [li_0] at c4204
    refine ⟨fun c4206 => ?_, fun c4207 => ?_⟩
    · replace c4206 := q_eq c4206
      rw [li_1] at c4206
      have p4208 : s6.2 = s6.2 := by rfl
      exact k _ _ _ h4201 h4202 p4208
    · replace c4207 := q_neq c4207
      rw [li_1] at c4207
      refine ⟨fun c4209 => ?_, fun c4210 => ?_⟩
      · replace c4209 := q_eq c4209
        rw [li_2] at c4209
        refine wq_X0_cells h4200 (fun r_4 q4211 => ?_)
        have p4212 : s6.2 = s6.2 := by rfl
        exact k _ _ _ h4201 h4202 p4212
      · replace c4210 := q_neq c4210
        rw [li_2] at c4210
        refine ⟨fun c4213 => ?_, fun c4214 => ?_⟩
        · replace c4213 := q_eq c4213
          rw [li_3] at c4213
          have p4215 : s6.2 = s6.2 := by rfl
          exact k _ _ _ h4201 h4202 p4215
        · replace c4214 := q_neq c4214
          rw [li_3] at c4214
          refine ⟨fun c4216 => ?_, fun c4217 => ?_⟩
          · replace c4216 := q_eq c4216
            rw [li_4] at c4216
            have p4218 : s6.2 = s6.2 := by rfl
            exact k _ _ _ h4201 h4202 p4218
          · replace c4217 := q_neq c4217
            rw [li_4] at c4217
            refine ⟨fun c4219 => ?_, fun c4220 => ?_⟩
            · replace c4219 := q_eq c4219
              rw [li_5] at c4219
              have p4221 : s6.2 = s6.2 := by rfl
              exact k _ _ _ h4201 h4202 p4221
            · replace c4220 := q_neq c4220
              rw [li_5] at c4220
              refine ⟨fun c4222 => ?_, fun c4223 => ?_⟩
              · replace c4222 := q_eq c4222
                rw [li_6] at c4222
                have p4224 : s6.2 = s6.2 := by rfl
                exact k _ _ _ h4201 h4202 p4224
              · replace c4223 := q_neq c4223
                rw [li_6] at c4223
                refine ⟨fun c4225 => ?_, fun c4226 => ?_⟩
                · replace c4225 := q_eq c4225
                  rw [li_7] at c4225
                  refine wq_X6_shelvesUsed (fun r_11 => ?_)
                  have p4227 : s6.2 = s6.2 := by rfl
                  exact k _ _ _ h4201 h4202 p4227
                · replace c4226 := q_neq c4226
                  rw [li_7] at c4226
                  refine ⟨fun c4228 => ?_, fun c4229 => ?_⟩
                  · replace c4228 := q_eq c4228
                    rw [li_8] at c4228
                    refine wq_X2_choose h4201 h4200 (fun u_14 q4230 => ?_)
                    have := q4230.1
                    have p4231 : s6.2 = s6.2 := by rfl
                    exact k _ _ _ q4230 h4202 p4231
                  · replace c4229 := q_neq c4229
                    rw [li_8] at c4229
                    have p4232 : s6.2 = s6.2 := by rfl
                    exact k _ _ _ h4201 h4202 p4232

/-! The reference's row of numbers: what is relevant, what is kept by writing. -/
def c_f (f : Nat → Int64) (c j : Nat) : Int := (f (176 + 8 * c + j)).toInt
def d_f (f : Nat → Int64) (d : Nat) : Int := (f (8 + 42 * d + 1)).toInt
def rw_c (D : Int) (f : Nat → Int64) (c : Nat) : Prop := (0 ≤ c_f f c 0 ∧ c_f f c 0 ≤ 3 ∧ 0 ≤ c_f f c 4 ∧ c_f f c 4 ≤ 9 ∧ 0 ≤ c_f f c 1 ∧ 0 ≤ c_f f c 2 ∧ 0 ≤ c_f f c 3) ∧ (D ≤ 0 → c_f f c 0 = 0 ∧ c_f f c 1 = 0 ∧ c_f f c 2 = 0 ∧ c_f f c 3 = 0) ∧ (0 < D → c_f f c 0 < D ∧ c_f f c 1 < d_f f (c_f f c 0).toNat ∧ c_f f c 2 < d_f f (c_f f c 0).toNat ∧ c_f f c 3 < d_f f (c_f f c 0).toNat)
def rw_ok (R W D : Int) (f : Nat → Int64) : Prop := (f 0).toInt = R ∧ (f 1).toInt = W ∧ (f 3).toInt = D ∧ (D ≤ 0 ∨ 1 ≤ (f 2).toInt) ∧ (0 ≤ (f 2).toInt ∧ (f 2).toInt ≤ 99) ∧ (0 ≤ R ∧ R ≤ 6 ∧ 0 ≤ W ∧ W ≤ 10 ∧ 0 ≤ R * W ∧ R * W ≤ 40 ∧ 0 ≤ D ∧ D ≤ 4 ∧ (D ≤ 0 ∨ 1 ≤ R) ∧ (1 ≤ R ∨ R * W = 0)) ∧ (∀ d : Nat, (d : Int) < D → 2 ≤ d_f f d ∧ d_f f d ≤ 40) ∧ (∀ c : Nat, c < 40 → rw_c D f c)
def rw_rel (i : Nat) : Prop := i < 4 ∨ i = 9 ∨ i = 51 ∨ i = 93 ∨ i = 135 ∨ (176 ≤ i ∧ i < 496 ∧ (i - 176) % 8 ≤ 4)
theorem rw_d {f g : Nat → Int64} (h : ∀ i, rw_rel i → ¬ (176 ≤ i) → g i = f i) {d : Nat} (hd : d < 4) : d_f g d = d_f f d := by
  unfold d_f
  rw [h _ (by unfold rw_rel; omega) (by omega)]
theorem rw_cellG {R W D : Int} {f g : Nat → Int64} {c : Nat} (hf : rw_ok R W D f) (h : ∀ i, rw_rel i → ¬ (176 + 8 * c ≤ i ∧ i < 176 + 8 * c + 8) → g i = f i) (hcell : c < 40 → rw_c D g c) : rw_ok R W D g := by
  have e0 := h 0 (Or.inl (by decide)) (by omega)
  have e1 := h 1 (Or.inl (by decide)) (by omega)
  have e2 := h 2 (Or.inl (by decide)) (by omega)
  have e3 := h 3 (Or.inl (by decide)) (by omega)
  have hd : ∀ d, d < 4 → d_f g d = d_f f d := fun d hd => rw_d (fun i a b => h i a (by omega)) hd
  have hc : ∀ c2 j, c2 < 40 → j ≤ 4 → ¬ c2 = c → c_f g c2 j = c_f f c2 j := fun c2 j h1 h2 h3 => by
    unfold c_f
    rw [h _ (by unfold rw_rel; omega) (by omega)]
  obtain ⟨a0, a1, a2, a3, a4, a5, a6, a7⟩ := hf
  refine ⟨by rw [e0]; exact a0, by rw [e1]; exact a1, by rw [e3]; exact a2, by rw [e2]; exact a3, by rw [e2]; exact a4, a5, fun d hD => ?_, fun c2 hc2 => ?_⟩
  · rw [hd d (by omega)]
    exact a6 d hD
  · by_cases e : c2 = c
    · subst e
      exact hcell hc2
    · have q := a7 c2 hc2
      unfold rw_c at q ⊢
      rw [hc c2 0 hc2 (by omega) e, hc c2 1 hc2 (by omega) e, hc c2 2 hc2 (by omega) e, hc c2 3 hc2 (by omega) e, hc c2 4 hc2 (by omega) e]
      have l : (c_f f c2 0).toNat < 4 := by omega
      rw [hd _ l]
      exact q
theorem rw_congr {R W D : Int} {f g : Nat → Int64} (hf : rw_ok R W D f) (h : ∀ i, rw_rel i → g i = f i) : rw_ok R W D g := rw_cellG (c := 40) hf (fun i a _ => h i a) (fun l => absurd l (by decide))
theorem ul_at {f : Nat → Int64} {i : Nat} {v : Int64} : vp_updL f i v i = v := by
  unfold vp_updL
  rw [if_pos rfl]
theorem ul_ne {f : Nat → Int64} {i j : Nat} {v : Int64} (h : ¬ j = i) : vp_updL f i v j = f j := by
  unfold vp_updL
  rw [if_neg h]
theorem rw_irr {R W D : Int} {f : Nat → Int64} {i : Nat} {v : Int64} (hf : rw_ok R W D f) (hi : ¬ rw_rel i) : rw_ok R W D (vp_updL f i v) := rw_congr hf (fun j hj => ul_ne (fun e => hi (e ▸ hj)))
theorem rw_lim {R W D : Int} {f : Nat → Int64} {v : Int64} (hf : rw_ok R W D f) (h : 1 ≤ v.toInt ∧ v.toInt ≤ 99) : rw_ok R W D (vp_updL f 2 v) := by
  obtain ⟨a0, a1, a2, a3, a4, a5, a6, a7⟩ := hf
  have hd : ∀ d, d_f (vp_updL f 2 v) d = d_f f d := fun d => by
    unfold d_f
    rw [ul_ne (by omega)]
  have hc : ∀ c j, c_f (vp_updL f 2 v) c j = c_f f c j := fun c j => by
    unfold c_f
    rw [ul_ne (by omega)]
  refine ⟨by rw [ul_ne (by decide)]; exact a0, by rw [ul_ne (by decide)]; exact a1, by rw [ul_ne (by decide)]; exact a2, by rw [ul_at]; omega, by rw [ul_at]; omega, a5, fun d hD => by rw [hd]; exact a6 d hD, fun c h2 => ?_⟩
  have q := a7 c h2
  unfold rw_c at q ⊢
  rw [hc c 0, hc c 1, hc c 2, hc c 3, hc c 4, hd]
  exact q
theorem rw_sj {R W D : Int} {f : Nat → Int64} {c j : Nat} {v : Int64} (hf : rw_ok R W D f) (hc : c < 40) (hj : 1 ≤ j ∧ j ≤ 3) (h0 : 0 ≤ v.toInt) (h1 : D ≤ 0 → v.toInt = 0) (h2 : 0 < D → v.toInt < d_f f (c_f f c 0).toNat) : rw_ok R W D (vp_updL f (176 + 8 * c + j) v) := by
  refine rw_cellG (c := c) hf (fun i _ b => ul_ne (by omega)) (fun l => ?_)
  have q := hf.2.2.2.2.2.2.2 c l
  have e0 : c_f (vp_updL f (176 + 8 * c + j) v) c 0 = c_f f c 0 := by
    unfold c_f
    rw [ul_ne (by omega)]
  have e4 : c_f (vp_updL f (176 + 8 * c + j) v) c 4 = c_f f c 4 := by
    unfold c_f
    rw [ul_ne (by omega)]
  have ed : d_f (vp_updL f (176 + 8 * c + j) v) (c_f f c 0).toNat = d_f f (c_f f c 0).toNat := by
    have l2 := q.1
    unfold d_f
    rw [ul_ne (by omega)]
  have ej : ∀ k, c_f (vp_updL f (176 + 8 * c + j) v) c k = c_f f c k ∨ (k = j ∧ c_f (vp_updL f (176 + 8 * c + j) v) c k = v.toInt) := fun k => by
    by_cases e : k = j
    · right
      refine ⟨e, ?_⟩
      subst e
      unfold c_f
      rw [ul_at]
    · left
      unfold c_f
      rw [ul_ne (by omega)]
  have g1 := ej 1
  have g2 := ej 2
  have g3 := ej 3
  unfold rw_c at q ⊢
  rw [e0, e4, ed]
  obtain ⟨q1, q2, q3⟩ := q
  refine ⟨by omega, fun hD => ?_, fun hD => ?_⟩
  · have := q2 hD
    have := h1 hD
    omega
  · have := q3 hD
    have := h2 hD
    omega
theorem rw_s4 {R W D : Int} {f : Nat → Int64} {c : Nat} {v : Int64} (hf : rw_ok R W D f) (hc : c < 40) (h0 : 0 ≤ v.toInt ∧ v.toInt ≤ 9) : rw_ok R W D (vp_updL f (176 + 8 * c + 4) v) := by
  refine rw_cellG (c := c) hf (fun i _ b => ul_ne (by omega)) (fun l => ?_)
  have q := hf.2.2.2.2.2.2.2 c l
  have e : ∀ k, ¬ k = 4 → c_f (vp_updL f (176 + 8 * c + 4) v) c k = c_f f c k := fun k hk => by
    unfold c_f
    rw [ul_ne (by omega)]
  have e4 : c_f (vp_updL f (176 + 8 * c + 4) v) c 4 = v.toInt := by
    unfold c_f
    rw [ul_at]
  have ed : d_f (vp_updL f (176 + 8 * c + 4) v) (c_f f c 0).toNat = d_f f (c_f f c 0).toNat := by
    have l2 := q.1
    unfold d_f
    rw [ul_ne (by omega)]
  unfold rw_c at q ⊢
  rw [e 0 (by decide), e 1 (by decide), e 2 (by decide), e 3 (by decide), e4, ed]
  obtain ⟨q1, q2, q3⟩ := q
  exact ⟨by omega, q2, q3⟩
def cw (f : Nat → Int64) (x : Int32) (j : Nat) : Int := c_f f x.toInt.toNat j
def fl_c (f : Nat → Int64) (x : Int32) : Int := d_f f (c_f f x.toInt.toNat 0).toNat
def lf_c (f : Nat → Int64) (x : Int32) : Int := if cw f x 2 ≤ cw f x 3 then cw f x 3 - cw f x 2 else cw f x 3 - cw f x 2 + fl_c f x
theorem lf_d (f : Nat → Int64) (x : Int32) : (cw f x 2 ≤ cw f x 3 ∧ lf_c f x = cw f x 3 - cw f x 2) ∨ (cw f x 3 < cw f x 2 ∧ lf_c f x = cw f x 3 - cw f x 2 + fl_c f x) := by
  unfold lf_c
  by_cases h : cw f x 2 ≤ cw f x 3
  · rw [if_pos h]
    exact Or.inl ⟨h, rfl⟩
  · rw [if_neg h]
    exact Or.inr ⟨by omega, rfl⟩
/-- what is known of a cell -/
theorem rw_k {R W D : Int} {f : Nat → Int64} {x : Int32} (hf : rw_ok R W D f) (hx : 0 ≤ x.toInt ∧ x.toInt < 40) : (0 ≤ cw f x 0 ∧ cw f x 0 ≤ 3 ∧ 0 ≤ cw f x 4 ∧ cw f x 4 ≤ 9 ∧ 0 ≤ cw f x 1 ∧ 0 ≤ cw f x 2 ∧ 0 ≤ cw f x 3) ∧ ((D ≤ 0 ∧ cw f x 0 = 0 ∧ cw f x 1 = 0 ∧ cw f x 2 = 0 ∧ cw f x 3 = 0) ∨ (0 < D ∧ cw f x 0 < D ∧ cw f x 1 < fl_c f x ∧ cw f x 2 < fl_c f x ∧ cw f x 3 < fl_c f x ∧ 2 ≤ fl_c f x ∧ fl_c f x ≤ 40)) := by
  have q := hf.2.2.2.2.2.2.2 x.toInt.toNat (by omega)
  have dd := hf.2.2.2.2.2.2.1
  unfold cw fl_c
  obtain ⟨q1, q2, q3⟩ := q
  refine ⟨q1, ?_⟩
  by_cases h : D ≤ 0
  · have := q2 h
    exact Or.inl ⟨h, this⟩
  · have g := q3 (by omega)
    have g2 := dd (c_f f x.toInt.toNat 0).toNat (by omega)
    exact Or.inr ⟨by omega, g.1, g.2.1, g.2.2.1, g.2.2.2, g2⟩
theorem ix_c {x w : Int32} (hx : 0 ≤ x.toInt ∧ x.toInt < 40) (hw : 0 ≤ w.toInt ∧ w.toInt ≤ 7) : Int32.toNatClampNeg ((176 + (8 * x)) + w) = 176 + 8 * x.toInt.toNat + w.toInt.toNat ∧ ((176 + (8 * x)) + w).toInt = 176 + 8 * x.toInt + w.toInt := by
  have a : (8 : Int32).toInt = 8 := rfl
  have b : (176 : Int32).toInt = 176 := rfl
  have e1 := nw (tq_mulc a x) (by omega)
  have e2 := nw (tq_addc b (8 * x)) (by omega)
  have e3 := nw (tq_add (176 + 8 * x) w) (by omega)
  rw [tn_i]
  omega
theorem ix_d {x : Int32} (hx : 0 ≤ x.toInt ∧ x.toInt < 4) : Int32.toNatClampNeg (8 + (42 * x)) = 8 + 42 * x.toInt.toNat ∧ (8 + (42 * x)).toInt = 8 + 42 * x.toInt := by
  have a : (42 : Int32).toInt = 42 := rfl
  have b : (8 : Int32).toInt = 8 := rfl
  have e1 := nw (tq_mulc a x) (by omega)
  have e2 := nw (tq_addc b (42 * x)) (by omega)
  rw [tn_i]
  omega
theorem ix_d1 {x : Int32} (hx : 0 ≤ x.toInt ∧ x.toInt < 4) : Int32.toNatClampNeg ((8 + (42 * x)) + 1) = 8 + 42 * x.toInt.toNat + 1 ∧ ((8 + (42 * x)) + 1).toInt = 8 + 42 * x.toInt + 1 := by
  have a : (1 : Int32).toInt = 1 := rfl
  have e2 := ix_d hx
  have e3 := nw (tq_addr a (8 + (42 * x))) (by omega)
  rw [tn_i]
  omega
theorem ix_s {x y : Int32} (hx : 0 ≤ x.toInt ∧ x.toInt < 4) (hy : 0 ≤ y.toInt ∧ y.toInt < 40) : Int32.toNatClampNeg (((8 + (42 * x)) + 2) + y) = 8 + 42 * x.toInt.toNat + 2 + y.toInt.toNat ∧ (((8 + (42 * x)) + 2) + y).toInt = 8 + 42 * x.toInt + 2 + y.toInt := by
  have a : (2 : Int32).toInt = 2 := rfl
  have e2 := ix_d hx
  have e3 := nw (tq_addr a (8 + (42 * x))) (by omega)
  have e4 := nw (tq_add ((8 + (42 * x)) + 2) y) (by omega)
  rw [tn_i]
  omega
def ie (l : List Nat) (a b : Nat → Int32) : Prop := ∀ k, k ∉ l → a k = b k
theorem ie_refl (l : List Nat) (a : Nat → Int32) : ie l a a := fun _ _ => rfl
theorem ie_up {l : List Nat} {a b : Nat → Int32} {i : Nat} {v : Int32} (h : ie l a b) (hi : i ∈ l) : ie l (va_up a i v) b := fun k hk => by
  unfold va_up
  by_cases e : k = i
  · subst e
    exact absurd hi hk
  · rw [if_neg e]
    exact h k hk
theorem ie_tr {l m : List Nat} {a b c : Nat → Int32} (h : ie m a b) (hm : ∀ x ∈ m, x ∈ l) (h2 : ie l b c) : ie l a c := fun k hk => (h k (fun g => hk (hm k g))).trans (h2 k hk)
theorem ie_i {l : List Nat} {a b : Nat → Int32} (h : ie l a b) (k : Nat) (hk : k ∉ l) : (a k).toInt = (b k).toInt := congrArg Int32.toInt (h k hk)
def rk (f : Nat → Int64) : Prop := ∃ R W D, rw_ok R W D f ∧ (R ≤ 0 ∨ 0 < D)
def mb (N R W D : Int) (s : Md) : Prop := (s.1 5).toInt = N ∧ (0 ≤ (s.1 0).toInt ∧ (s.1 0).toInt ≤ 10) ∧ (0 ≤ N ∧ N ≤ 400) ∧ (0 ≤ R ∧ R ≤ 6 ∧ 0 ≤ W ∧ W ≤ 10 ∧ 0 ≤ R * W ∧ R * W ≤ 40 ∧ 0 ≤ D ∧ D ≤ 4 ∧ (D ≤ 0 ∨ 1 ≤ R) ∧ (1 ≤ R ∨ R * W = 0)) ∧ rw_ok R W D (s.2.2.1 0) ∧ (∀ k : Nat, (k : Int) < (s.1 0).toInt → rk (fun i => s.2.2.1 1 (6896 * k + i))) ∧ (∀ k : Nat, k < 2 → ¬ s.2.2.2 0 k = 0 → rk (fun i => s.2.2.1 2 (6896 * k + i))) ∧ rk (s.2.2.1 3)
theorem mb_now {N R W D : Int} {s t : Md} (h : mb N R W D s) (h1 : t.1 = s.1) (h2 : ∀ k, ¬ k = 0 → t.2.2.1 k = s.2.2.1 k) (h3 : t.2.2.2 0 = s.2.2.2 0) (hr : rw_ok R W D (t.2.2.1 0)) : mb N R W D t := by
  obtain ⟨a0, a1, a2, a3, a4, a5, a6, a7⟩ := h
  refine ⟨by rw [h1]; exact a0, by rw [h1]; exact a1, a2, a3, hr, fun k hk => ?_, fun k hk => ?_, by rw [h2 3 (by decide)]; exact a7⟩
  · rw [h2 1 (by decide)]
    rw [h1] at hk
    exact a5 k hk
  · rw [h2 2 (by decide), h3]
    exact a6 k hk
theorem w32 {f : Nat → Int64} {i : Nat} (h : -2147483648 ≤ (f i).toInt ∧ (f i).toInt < 2147483648) : (Int64.toInt32 (f i)).toInt = (f i).toInt := nw (tq_32 (f i)) h

theorem wq_X7_in {post : Int32 → Prop} {y0 y2 y4 : Int64} (k : ∀ r : Int32, (r.toInt = 1 ∧ y2.toInt ≤ y0.toInt ∧ y0.toInt ≤ y4.toInt) ∨ (r.toInt = 0 ∧ (y0.toInt < y2.toInt ∨ y4.toInt < y0.toInt)) → post r) : wp_X7_in post y0 y2 y4 := by
  unfold wp_X7_in
  have e0 : (0 : Int32).toInt = 0 := rfl
  have e1 : (1 : Int32).toInt = 1 := rfl
  refine ⟨fun c => k _ (Or.inr ⟨e0, Or.inl ?_⟩), fun c => ⟨fun d => k _ (Or.inr ⟨e0, Or.inr ?_⟩), fun d => k _ (Or.inl ⟨e1, ?_, ?_⟩)⟩⟩
  · exact Int64.lt_iff_toInt_lt.mp ((lg_cmp_lt _ _).mp c)
  · exact Int64.lt_iff_toInt_lt.mp ((lg_cmp_gt _ _).mp d)
  · have : ¬ y0.toInt < y2.toInt := fun g => c ((lg_cmp_lt _ _).mpr (Int64.lt_iff_toInt_lt.mpr g))
    omega
  · have : ¬ y4.toInt < y0.toInt := fun g => d ((lg_cmp_gt _ _).mpr (Int64.lt_iff_toInt_lt.mpr g))
    omega
theorem wq_X7_isIn {post : Int32 → Prop} {y0 : Int64} {x2 : Int32} (k : ∀ (r : Int32), (r).toInt = 0 ∨ (r).toInt = 1 → post r) : wp_X7_isIn post y0 x2 := by
  unfold wp_X7_isIn
  refine ⟨fun c100001 => ?_, fun c100002 => ?_⟩
  · have p100003 : (0 : Int32).toInt = 0 ∨ (0 : Int32).toInt = 1 := by (have := li_0; omega)
    exact k _ p100003
  · have p100004 : (1 : Int32).toInt = 0 ∨ (1 : Int32).toInt = 1 := by (have := li_1; omega)
    exact k _ p100004
theorem wq_X7_isSign {post : Int32 → Prop} {x0 : Int32} (k : ∀ (r : Int32), (r).toInt = 0 ∨ ((r).toInt = 1 ∧ 32 ≤ (x0).toInt ∧ (x0).toInt ≤ 126) → post r) : wp_X7_isSign post x0 := by
  unfold wp_X7_isSign
  refine wq_X7_in (fun r_1 q100005 => ?_)
  try simp only [lj_32, lj_126] at q100005
  have := tq_64 x0
  refine ⟨fun c100006 => ?_, fun c100007 => ?_⟩
  · replace c100006 := q_eq c100006
    rw [li_0] at c100006
    have p100008 : (0 : Int32).toInt = 0 ∨ ((0 : Int32).toInt = 1 ∧ 32 ≤ (x0).toInt ∧ (x0).toInt ≤ 126) := by (have := li_0; omega)
    exact k _ p100008
  · replace c100007 := q_neq c100007
    rw [li_0] at c100007
    refine ⟨fun c100009 => ?_, fun c100010 => ?_⟩
    · replace c100009 := q_eq c100009
      rw [li_39] at c100009
      have p100011 : (0 : Int32).toInt = 0 ∨ ((0 : Int32).toInt = 1 ∧ 32 ≤ (x0).toInt ∧ (x0).toInt ≤ 126) := by (have := li_0; omega)
      exact k _ p100011
    · replace c100010 := q_neq c100010
      rw [li_39] at c100010
      have p100012 : (1 : Int32).toInt = 0 ∨ ((1 : Int32).toInt = 1 ∧ 32 ≤ (x0).toInt ∧ (x0).toInt ≤ 126) := by (have := li_1; omega)
      exact k _ p100012
theorem wq_X7_rows {post : Int32 → Prop} {s0 : Md} {N R W D : Int} (h : mb N R W D s0) (k : ∀ r : Int32, r.toInt = R → post r) : wp_X7_rows post s0 := by
  unfold wp_X7_rows
  have a := h.2.2.2.1
  have b : ((s0.2.2.1 0) 0).toInt = R := h.2.2.2.2.1.1
  exact k _ ((w32 (f := s0.2.2.1 0) (i := 0) (by omega)).trans b)
theorem wq_X7_wide {post : Int32 → Prop} {s0 : Md} {N R W D : Int} (h : mb N R W D s0) (k : ∀ r : Int32, r.toInt = W → post r) : wp_X7_wide post s0 := by
  unfold wp_X7_wide
  have a := h.2.2.2.1
  have b : ((s0.2.2.1 0) 1).toInt = W := h.2.2.2.2.1.2.1
  exact k _ ((w32 (f := s0.2.2.1 0) (i := 1) (by omega)).trans b)
theorem wq_X7_cells {post : Int32 → Prop} {s0 : Md} {N R W D : Int} (h : mb N R W D s0) (k : ∀ r : Int32, r.toInt = R * W → post r) : wp_X7_cells post s0 := by
  unfold wp_X7_cells
  have a := h.2.2.2.1
  refine wq_X7_rows h (fun r1 h1 => wq_X7_wide h (fun r3 h3 => k _ ?_))
  have e := tq_mul r1 r3
  rw [h1, h3] at e
  exact nw e (by omega)
theorem wq_X7_drums {post : Int32 → Prop} {s0 : Md} {N R W D : Int} (h : mb N R W D s0) (k : ∀ r : Int32, r.toInt = D → post r) : wp_X7_drums post s0 := by
  unfold wp_X7_drums
  have a := h.2.2.2.1
  have b : ((s0.2.2.1 0) 3).toInt = D := h.2.2.2.2.1.2.2.1
  exact k _ ((w32 (f := s0.2.2.1 0) (i := 3) (by omega)).trans b)
theorem wq_X7_isBoard {post : Int32 → Prop} {s0 : Md} {N R W D : Int} (h100013 : mb (N) (R) (W) (D) s0) (k : ∀ (r : Int32), ((r).toInt = 1 ∧ 0 < D) ∨ ((r).toInt = 0 ∧ D ≤ 0) → post r) : wp_X7_isBoard post s0 := by
  unfold wp_X7_isBoard
  have := h100013.1
  have := h100013.2.1
  have := h100013.2.2.1
  have := h100013.2.2.2.1
  refine wq_X7_drums h100013 (fun r_1 q100014 => ?_)
  refine ⟨fun c100015 => ?_, fun c100016 => ?_⟩
  · replace c100015 := q_le c100015
    rw [li_0] at c100015
    have p100017 : ((0 : Int32).toInt = 1 ∧ 0 < D) ∨ ((0 : Int32).toInt = 0 ∧ D ≤ 0) := by (have := li_0; omega)
    exact k _ p100017
  · replace c100016 := q_nle c100016
    rw [li_0] at c100016
    have p100018 : ((1 : Int32).toInt = 1 ∧ 0 < D) ∨ ((1 : Int32).toInt = 0 ∧ D ≤ 0) := by (have := li_1; omega)
    exact k _ p100018
theorem wq_X7_isCell {post : Int32 → Prop} {s0 : Md} {x1 : Int32} {N R W D : Int} (h100019 : mb (N) (R) (W) (D) s0) (k : ∀ (r : Int32), ((r).toInt = 1 ∧ 0 ≤ (x1).toInt ∧ (x1).toInt < R * W) ∨ ((r).toInt = 0 ∧ ((x1).toInt < 0 ∨ R * W ≤ (x1).toInt)) → post r) : wp_X7_isCell post s0 x1 := by
  unfold wp_X7_isCell
  have := h100019.1
  have := h100019.2.1
  have := h100019.2.2.1
  have := h100019.2.2.2.1
  refine wq_X7_cells h100019 (fun r_1 q100020 => ?_)
  refine wq_X7_in (fun r_3 q100021 => ?_)
  try simp only [lj_0] at q100021
  have := tq_64 x1
  have e100022 := tq_subr li_1 r_1
  try rw [Int.emod_eq_of_lt (show 0 ≤ (r_1).toInt - 1 + 2147483648 by omega) (show (r_1).toInt - 1 + 2147483648 < 4294967296 by omega)] at e100022
  have := tq_64 (r_1 - 1)
  refine ⟨(nb_b (by omega)), ?_⟩
  have p100023 : ((r_3).toInt = 1 ∧ 0 ≤ (x1).toInt ∧ (x1).toInt < R * W) ∨ ((r_3).toInt = 0 ∧ ((x1).toInt < 0 ∨ R * W ≤ (x1).toInt)) := by omega
  exact k _ p100023
theorem wq_X7_isRow {post : Int32 → Prop} {s0 : Md} {x1 : Int32} {N R W D : Int} (h100024 : mb (N) (R) (W) (D) s0) (k : ∀ (r : Int32), ((r).toInt = 1 ∧ 0 ≤ (x1).toInt ∧ (x1).toInt < R) ∨ ((r).toInt = 0 ∧ ((x1).toInt < 0 ∨ R ≤ (x1).toInt)) → post r) : wp_X7_isRow post s0 x1 := by
  unfold wp_X7_isRow
  have := h100024.1
  have := h100024.2.1
  have := h100024.2.2.1
  have := h100024.2.2.2.1
  refine wq_X7_rows h100024 (fun r_1 q100025 => ?_)
  refine wq_X7_in (fun r_3 q100026 => ?_)
  try simp only [lj_0] at q100026
  have := tq_64 x1
  have e100027 := tq_subr li_1 r_1
  try rw [Int.emod_eq_of_lt (show 0 ≤ (r_1).toInt - 1 + 2147483648 by omega) (show (r_1).toInt - 1 + 2147483648 < 4294967296 by omega)] at e100027
  have := tq_64 (r_1 - 1)
  refine ⟨(nb_b (by omega)), ?_⟩
  have p100028 : ((r_3).toInt = 1 ∧ 0 ≤ (x1).toInt ∧ (x1).toInt < R) ∨ ((r_3).toInt = 0 ∧ ((x1).toInt < 0 ∨ R ≤ (x1).toInt)) := by omega
  exact k _ p100028

theorem wq_X7_isDrum {post : Int32 → Prop} {s0 : Md} {x1 : Int32} {N R W D : Int} (h100029 : mb (N) (R) (W) (D) s0) (k : ∀ (r : Int32), ((r).toInt = 1 ∧ 0 ≤ (x1).toInt ∧ (x1).toInt < D) ∨ ((r).toInt = 0 ∧ ((x1).toInt < 0 ∨ D ≤ (x1).toInt)) → post r) : wp_X7_isDrum post s0 x1 := by
  unfold wp_X7_isDrum
  have := h100029.1
  have := h100029.2.1
  have := h100029.2.2.1
  have := h100029.2.2.2.1
  refine wq_X7_drums h100029 (fun r_1 q100030 => ?_)
  refine wq_X7_in (fun r_3 q100031 => ?_)
  try simp only [lj_0] at q100031
  have := tq_64 x1
  have e100032 := tq_subr li_1 r_1
  try rw [Int.emod_eq_of_lt (show 0 ≤ (r_1).toInt - 1 + 2147483648 by omega) (show (r_1).toInt - 1 + 2147483648 < 4294967296 by omega)] at e100032
  have := tq_64 (r_1 - 1)
  refine ⟨(nb_b (by omega)), ?_⟩
  have p100033 : ((r_3).toInt = 1 ∧ 0 ≤ (x1).toInt ∧ (x1).toInt < D) ∨ ((r_3).toInt = 0 ∧ ((x1).toInt < 0 ∨ D ≤ (x1).toInt)) := by omega
  exact k _ p100033
theorem wq_X7_of_0 {post : Int32 → Prop} {s0 : Md} {x1 : Int32} {N R W D : Int} (h : mb N R W D s0) (hx : 0 ≤ x1.toInt ∧ x1.toInt < 40) (k : ∀ r : Int32, r.toInt = cw (s0.2.2.1 0) x1 0 → (0 ≤ r.toInt ∧ r.toInt ≤ 3 ∧ (D ≤ 0 ∨ r.toInt < D)) → post r) : wp_X7_of post s0 x1 (0 : Int32) := by
  unfold wp_X7_of
  have a : (0 : Int32).toInt = 0 := rfl
  have i := ix_c (w := 0) hx (by omega)
  have c := rw_k h.2.2.2.2.1 hx
  have pd := h.2.2.2.1
  have e : (Int64.toInt32 ((s0.2.2.1 0) (Int32.toNatClampNeg ((176 + (8 * x1)) + (0 : Int32))))).toInt = cw (s0.2.2.1 0) x1 0 := by
    rw [i.1]
    exact w32 (f := s0.2.2.1 0) (i := 176 + 8 * x1.toInt.toNat + 0) (show -2147483648 ≤ cw (s0.2.2.1 0) x1 0 ∧ cw (s0.2.2.1 0) x1 0 < 2147483648 by omega)
  exact ⟨vi (by omega) (by omega), k _ e (by omega)⟩
theorem wq_X7_of_1 {post : Int32 → Prop} {s0 : Md} {x1 : Int32} {N R W D : Int} (h : mb N R W D s0) (hx : 0 ≤ x1.toInt ∧ x1.toInt < 40) (k : ∀ r : Int32, r.toInt = cw (s0.2.2.1 0) x1 1 → (0 ≤ r.toInt ∧ r.toInt ≤ 39 ∧ (D ≤ 0 ∨ r.toInt < fl_c (s0.2.2.1 0) x1)) → post r) : wp_X7_of post s0 x1 (1 : Int32) := by
  unfold wp_X7_of
  have a : (1 : Int32).toInt = 1 := rfl
  have i := ix_c (w := 1) hx (by omega)
  have c := rw_k h.2.2.2.2.1 hx
  have pd := h.2.2.2.1
  have e : (Int64.toInt32 ((s0.2.2.1 0) (Int32.toNatClampNeg ((176 + (8 * x1)) + (1 : Int32))))).toInt = cw (s0.2.2.1 0) x1 1 := by
    rw [i.1]
    exact w32 (f := s0.2.2.1 0) (i := 176 + 8 * x1.toInt.toNat + 1) (show -2147483648 ≤ cw (s0.2.2.1 0) x1 1 ∧ cw (s0.2.2.1 0) x1 1 < 2147483648 by omega)
  exact ⟨vi (by omega) (by omega), k _ e (by omega)⟩
theorem wq_X7_of_2 {post : Int32 → Prop} {s0 : Md} {x1 : Int32} {N R W D : Int} (h : mb N R W D s0) (hx : 0 ≤ x1.toInt ∧ x1.toInt < 40) (k : ∀ r : Int32, r.toInt = cw (s0.2.2.1 0) x1 2 → (0 ≤ r.toInt ∧ r.toInt ≤ 39 ∧ (D ≤ 0 ∨ r.toInt < fl_c (s0.2.2.1 0) x1)) → post r) : wp_X7_of post s0 x1 (2 : Int32) := by
  unfold wp_X7_of
  have a : (2 : Int32).toInt = 2 := rfl
  have i := ix_c (w := 2) hx (by omega)
  have c := rw_k h.2.2.2.2.1 hx
  have pd := h.2.2.2.1
  have e : (Int64.toInt32 ((s0.2.2.1 0) (Int32.toNatClampNeg ((176 + (8 * x1)) + (2 : Int32))))).toInt = cw (s0.2.2.1 0) x1 2 := by
    rw [i.1]
    exact w32 (f := s0.2.2.1 0) (i := 176 + 8 * x1.toInt.toNat + 2) (show -2147483648 ≤ cw (s0.2.2.1 0) x1 2 ∧ cw (s0.2.2.1 0) x1 2 < 2147483648 by omega)
  exact ⟨vi (by omega) (by omega), k _ e (by omega)⟩
theorem wq_X7_of_3 {post : Int32 → Prop} {s0 : Md} {x1 : Int32} {N R W D : Int} (h : mb N R W D s0) (hx : 0 ≤ x1.toInt ∧ x1.toInt < 40) (k : ∀ r : Int32, r.toInt = cw (s0.2.2.1 0) x1 3 → (0 ≤ r.toInt ∧ r.toInt ≤ 39 ∧ (D ≤ 0 ∨ r.toInt < fl_c (s0.2.2.1 0) x1)) → post r) : wp_X7_of post s0 x1 (3 : Int32) := by
  unfold wp_X7_of
  have a : (3 : Int32).toInt = 3 := rfl
  have i := ix_c (w := 3) hx (by omega)
  have c := rw_k h.2.2.2.2.1 hx
  have pd := h.2.2.2.1
  have e : (Int64.toInt32 ((s0.2.2.1 0) (Int32.toNatClampNeg ((176 + (8 * x1)) + (3 : Int32))))).toInt = cw (s0.2.2.1 0) x1 3 := by
    rw [i.1]
    exact w32 (f := s0.2.2.1 0) (i := 176 + 8 * x1.toInt.toNat + 3) (show -2147483648 ≤ cw (s0.2.2.1 0) x1 3 ∧ cw (s0.2.2.1 0) x1 3 < 2147483648 by omega)
  exact ⟨vi (by omega) (by omega), k _ e (by omega)⟩
theorem wq_X7_of_4 {post : Int32 → Prop} {s0 : Md} {x1 : Int32} {N R W D : Int} (h : mb N R W D s0) (hx : 0 ≤ x1.toInt ∧ x1.toInt < 40) (k : ∀ r : Int32, r.toInt = cw (s0.2.2.1 0) x1 4 → (0 ≤ r.toInt ∧ r.toInt ≤ 9) → post r) : wp_X7_of post s0 x1 (4 : Int32) := by
  unfold wp_X7_of
  have a : (4 : Int32).toInt = 4 := rfl
  have i := ix_c (w := 4) hx (by omega)
  have c := rw_k h.2.2.2.2.1 hx
  have pd := h.2.2.2.1
  have e : (Int64.toInt32 ((s0.2.2.1 0) (Int32.toNatClampNeg ((176 + (8 * x1)) + (4 : Int32))))).toInt = cw (s0.2.2.1 0) x1 4 := by
    rw [i.1]
    exact w32 (f := s0.2.2.1 0) (i := 176 + 8 * x1.toInt.toNat + 4) (show -2147483648 ≤ cw (s0.2.2.1 0) x1 4 ∧ cw (s0.2.2.1 0) x1 4 < 2147483648 by omega)
  exact ⟨vi (by omega) (by omega), k _ e (by omega)⟩
theorem wq_X7_of_g {post : Int32 → Prop} {s0 : Md} {x1 x2 : Int32} {N R W D : Int} (h : mb N R W D s0) (hx : 0 ≤ x1.toInt ∧ x1.toInt < 40) (hw : 0 ≤ x2.toInt ∧ x2.toInt ≤ 7) (k : ∀ r : Int32, post r) : wp_X7_of post s0 x1 x2 := by
  unfold wp_X7_of
  have i := ix_c hx hw
  exact ⟨vi (by omega) (by omega), k _⟩
theorem wq_X7_sets_1 {post : Md → Prop} {s0 : Md} {x1 : Int32} {y3 : Int64} {N R W D : Int} (h : mb N R W D s0) (hx : 0 ≤ x1.toInt ∧ x1.toInt < 40) (hv : 0 ≤ y3.toInt ∧ ((D ≤ 0 ∧ y3.toInt = 0) ∨ (0 < D ∧ y3.toInt < fl_c (s0.2.2.1 0) x1))) (k : ∀ u : Md, mb N R W D u → ie [] u.1 s0.1 → u.2.1 = s0.2.1 ∧ u.2.2.2 = s0.2.2.2 ∧ u.2.2.1 0 = vp_updL (s0.2.2.1 0) (176 + 8 * x1.toInt.toNat + 1) y3 → post u) : wp_X7_sets post s0 x1 (1 : Int32) y3 := by
  unfold wp_X7_sets
  have a : (1 : Int32).toInt = 1 := rfl
  have i := ix_c (w := 1) hx (by omega)
  refine ⟨vi (by omega) (by omega), ?_⟩
  have e : Int32.toNatClampNeg ((176 + (8 * x1)) + (1 : Int32)) = 176 + 8 * x1.toInt.toNat + 1 := i.1
  rw [e]
  refine k _ (mb_now h rfl (fun k hk => ?_) rfl ?_) (ie_refl _ _) ⟨rfl, rfl, rfl⟩
  · show (if k = 0 then _ else s0.2.2.1 k) = _
    rw [if_neg hk]
  · exact rw_sj (j := 1) h.2.2.2.2.1 (by omega) (by omega) hv.1 (fun g => by omega) (fun g => (show y3.toInt < fl_c (s0.2.2.1 0) x1 by omega))
theorem wq_X7_sets_2 {post : Md → Prop} {s0 : Md} {x1 : Int32} {y3 : Int64} {N R W D : Int} (h : mb N R W D s0) (hx : 0 ≤ x1.toInt ∧ x1.toInt < 40) (hv : 0 ≤ y3.toInt ∧ ((D ≤ 0 ∧ y3.toInt = 0) ∨ (0 < D ∧ y3.toInt < fl_c (s0.2.2.1 0) x1))) (k : ∀ u : Md, mb N R W D u → ie [] u.1 s0.1 → u.2.1 = s0.2.1 ∧ u.2.2.2 = s0.2.2.2 ∧ u.2.2.1 0 = vp_updL (s0.2.2.1 0) (176 + 8 * x1.toInt.toNat + 2) y3 → post u) : wp_X7_sets post s0 x1 (2 : Int32) y3 := by
  unfold wp_X7_sets
  have a : (2 : Int32).toInt = 2 := rfl
  have i := ix_c (w := 2) hx (by omega)
  refine ⟨vi (by omega) (by omega), ?_⟩
  have e : Int32.toNatClampNeg ((176 + (8 * x1)) + (2 : Int32)) = 176 + 8 * x1.toInt.toNat + 2 := i.1
  rw [e]
  refine k _ (mb_now h rfl (fun k hk => ?_) rfl ?_) (ie_refl _ _) ⟨rfl, rfl, rfl⟩
  · show (if k = 0 then _ else s0.2.2.1 k) = _
    rw [if_neg hk]
  · exact rw_sj (j := 2) h.2.2.2.2.1 (by omega) (by omega) hv.1 (fun g => by omega) (fun g => (show y3.toInt < fl_c (s0.2.2.1 0) x1 by omega))
theorem wq_X7_sets_3 {post : Md → Prop} {s0 : Md} {x1 : Int32} {y3 : Int64} {N R W D : Int} (h : mb N R W D s0) (hx : 0 ≤ x1.toInt ∧ x1.toInt < 40) (hv : 0 ≤ y3.toInt ∧ ((D ≤ 0 ∧ y3.toInt = 0) ∨ (0 < D ∧ y3.toInt < fl_c (s0.2.2.1 0) x1))) (k : ∀ u : Md, mb N R W D u → ie [] u.1 s0.1 → u.2.1 = s0.2.1 ∧ u.2.2.2 = s0.2.2.2 ∧ u.2.2.1 0 = vp_updL (s0.2.2.1 0) (176 + 8 * x1.toInt.toNat + 3) y3 → post u) : wp_X7_sets post s0 x1 (3 : Int32) y3 := by
  unfold wp_X7_sets
  have a : (3 : Int32).toInt = 3 := rfl
  have i := ix_c (w := 3) hx (by omega)
  refine ⟨vi (by omega) (by omega), ?_⟩
  have e : Int32.toNatClampNeg ((176 + (8 * x1)) + (3 : Int32)) = 176 + 8 * x1.toInt.toNat + 3 := i.1
  rw [e]
  refine k _ (mb_now h rfl (fun k hk => ?_) rfl ?_) (ie_refl _ _) ⟨rfl, rfl, rfl⟩
  · show (if k = 0 then _ else s0.2.2.1 k) = _
    rw [if_neg hk]
  · exact rw_sj (j := 3) h.2.2.2.2.1 (by omega) (by omega) hv.1 (fun g => by omega) (fun g => (show y3.toInt < fl_c (s0.2.2.1 0) x1 by omega))

theorem wq_X7_sets_4 {post : Md → Prop} {s0 : Md} {x1 : Int32} {y3 : Int64} {N R W D : Int} (h : mb N R W D s0) (hx : 0 ≤ x1.toInt ∧ x1.toInt < 40) (hv : 0 ≤ y3.toInt ∧ y3.toInt ≤ 9) (k : ∀ u : Md, mb N R W D u → ie [] u.1 s0.1 → u.2.1 = s0.2.1 ∧ u.2.2.2 = s0.2.2.2 ∧ u.2.2.1 0 = vp_updL (s0.2.2.1 0) (176 + 8 * x1.toInt.toNat + 4) y3 → post u) : wp_X7_sets post s0 x1 (4 : Int32) y3 := by
  unfold wp_X7_sets
  have a : (4 : Int32).toInt = 4 := rfl
  have i := ix_c (w := 4) hx (by omega)
  refine ⟨vi (by omega) (by omega), ?_⟩
  have e : Int32.toNatClampNeg ((176 + (8 * x1)) + (4 : Int32)) = 176 + 8 * x1.toInt.toNat + 4 := i.1
  rw [e]
  refine k _ (mb_now h rfl (fun k hk => ?_) rfl ?_) (ie_refl _ _) ⟨rfl, rfl, rfl⟩
  · show (if k = 0 then _ else s0.2.2.1 k) = _
    rw [if_neg hk]
  · exact rw_s4 h.2.2.2.2.1 (by omega) hv
theorem wq_X7_sets_5 {post : Md → Prop} {s0 : Md} {x1 : Int32} {y3 : Int64} {N R W D : Int} (h : mb N R W D s0) (hx : 0 ≤ x1.toInt ∧ x1.toInt < 40) (k : ∀ u : Md, mb N R W D u → ie [] u.1 s0.1 → u.2.1 = s0.2.1 ∧ u.2.2.2 = s0.2.2.2 ∧ u.2.2.1 0 = vp_updL (s0.2.2.1 0) (176 + 8 * x1.toInt.toNat + 5) y3 → post u) : wp_X7_sets post s0 x1 (5 : Int32) y3 := by
  unfold wp_X7_sets
  have a : (5 : Int32).toInt = 5 := rfl
  have i := ix_c (w := 5) hx (by omega)
  refine ⟨vi (by omega) (by omega), ?_⟩
  have e : Int32.toNatClampNeg ((176 + (8 * x1)) + (5 : Int32)) = 176 + 8 * x1.toInt.toNat + 5 := i.1
  rw [e]
  refine k _ (mb_now h rfl (fun k hk => ?_) rfl ?_) (ie_refl _ _) ⟨rfl, rfl, rfl⟩
  · show (if k = 0 then _ else s0.2.2.1 k) = _
    rw [if_neg hk]
  · exact rw_irr h.2.2.2.2.1 (by unfold rw_rel; omega)
theorem wq_X7_sets_6 {post : Md → Prop} {s0 : Md} {x1 : Int32} {y3 : Int64} {N R W D : Int} (h : mb N R W D s0) (hx : 0 ≤ x1.toInt ∧ x1.toInt < 40) (k : ∀ u : Md, mb N R W D u → ie [] u.1 s0.1 → u.2.1 = s0.2.1 ∧ u.2.2.2 = s0.2.2.2 ∧ u.2.2.1 0 = vp_updL (s0.2.2.1 0) (176 + 8 * x1.toInt.toNat + 6) y3 → post u) : wp_X7_sets post s0 x1 (6 : Int32) y3 := by
  unfold wp_X7_sets
  have a : (6 : Int32).toInt = 6 := rfl
  have i := ix_c (w := 6) hx (by omega)
  refine ⟨vi (by omega) (by omega), ?_⟩
  have e : Int32.toNatClampNeg ((176 + (8 * x1)) + (6 : Int32)) = 176 + 8 * x1.toInt.toNat + 6 := i.1
  rw [e]
  refine k _ (mb_now h rfl (fun k hk => ?_) rfl ?_) (ie_refl _ _) ⟨rfl, rfl, rfl⟩
  · show (if k = 0 then _ else s0.2.2.1 k) = _
    rw [if_neg hk]
  · exact rw_irr h.2.2.2.2.1 (by unfold rw_rel; omega)
theorem wq_X7_sets_7 {post : Md → Prop} {s0 : Md} {x1 : Int32} {y3 : Int64} {N R W D : Int} (h : mb N R W D s0) (hx : 0 ≤ x1.toInt ∧ x1.toInt < 40) (k : ∀ u : Md, mb N R W D u → ie [] u.1 s0.1 → u.2.1 = s0.2.1 ∧ u.2.2.2 = s0.2.2.2 ∧ u.2.2.1 0 = vp_updL (s0.2.2.1 0) (176 + 8 * x1.toInt.toNat + 7) y3 → post u) : wp_X7_sets post s0 x1 (7 : Int32) y3 := by
  unfold wp_X7_sets
  have a : (7 : Int32).toInt = 7 := rfl
  have i := ix_c (w := 7) hx (by omega)
  refine ⟨vi (by omega) (by omega), ?_⟩
  have e : Int32.toNatClampNeg ((176 + (8 * x1)) + (7 : Int32)) = 176 + 8 * x1.toInt.toNat + 7 := i.1
  rw [e]
  refine k _ (mb_now h rfl (fun k hk => ?_) rfl ?_) (ie_refl _ _) ⟨rfl, rfl, rfl⟩
  · show (if k = 0 then _ else s0.2.2.1 k) = _
    rw [if_neg hk]
  · exact rw_irr h.2.2.2.2.1 (by unfold rw_rel; omega)
theorem wq_X7_wornOf {post : Int64 → Prop} {s0 : Md} {x1 : Int32} (hx : 0 ≤ x1.toInt ∧ x1.toInt < 40) (k : ∀ r : Int64, post r) : wp_X7_wornOf post s0 x1 := by
  unfold wp_X7_wornOf
  have a : (7 : Int32).toInt = 7 := rfl
  have i := ix_c (w := 7) hx (by omega)
  exact ⟨vi (by omega) (by omega), k _⟩
theorem wq_X7_currentOf {post : Int32 → Prop} {s0 : Md} {x1 : Int32} (hx : 0 ≤ x1.toInt ∧ x1.toInt < 4) (k : ∀ r : Int32, post r) : wp_X7_currentOf post s0 x1 := by
  unfold wp_X7_currentOf
  have i := ix_d hx
  exact ⟨vi (by omega) (by omega), k _⟩
theorem wq_X7_flapsOf {post : Int32 → Prop} {s0 : Md} {x1 : Int32} {N R W D : Int} (h : mb N R W D s0) (hx : 0 ≤ x1.toInt ∧ x1.toInt < 4) (k : ∀ r : Int32, D ≤ x1.toInt ∨ (r.toInt = d_f (s0.2.2.1 0) x1.toInt.toNat ∧ 2 ≤ r.toInt ∧ r.toInt ≤ 40) → post r) : wp_X7_flapsOf post s0 x1 := by
  unfold wp_X7_flapsOf
  have i := ix_d1 hx
  refine ⟨vi (by omega) (by omega), k _ ?_⟩
  by_cases g : D ≤ x1.toInt
  · exact Or.inl g
  · have q := h.2.2.2.2.1.2.2.2.2.2.2.1 x1.toInt.toNat (by omega)
    have e : (Int64.toInt32 ((s0.2.2.1 0) (Int32.toNatClampNeg ((8 + (42 * x1)) + 1)))).toInt = d_f (s0.2.2.1 0) x1.toInt.toNat := by
      rw [i.1]
      exact w32 (f := s0.2.2.1 0) (i := 8 + 42 * x1.toInt.toNat + 1) (show -2147483648 ≤ d_f (s0.2.2.1 0) x1.toInt.toNat ∧ d_f (s0.2.2.1 0) x1.toInt.toNat < 2147483648 by omega)
    exact Or.inr ⟨e, by omega, by omega⟩
theorem wq_X7_signOf {post : Int32 → Prop} {s0 : Md} {x1 x2 : Int32} (hx : 0 ≤ x1.toInt ∧ x1.toInt < 4) (hy : 0 ≤ x2.toInt ∧ x2.toInt < 40) (k : ∀ r : Int32, post r) : wp_X7_signOf post s0 x1 x2 := by
  unfold wp_X7_signOf
  have i := ix_s hx hy
  exact ⟨vi (by omega) (by omega), k _⟩
theorem wq_X7_flaps {post : Int32 → Prop} {s0 : Md} {x1 : Int32} {N R W D : Int} (h : mb N R W D s0) (hx : 0 ≤ x1.toInt ∧ x1.toInt < 40) (k : ∀ r : Int32, D ≤ 0 ∨ (r.toInt = fl_c (s0.2.2.1 0) x1 ∧ 2 ≤ r.toInt ∧ r.toInt ≤ 40) → post r) : wp_X7_flaps post s0 x1 := by
  unfold wp_X7_flaps
  refine wq_X7_of_0 h hx (fun r h1 h2 => wq_X7_flapsOf h (by omega) (fun r3 h3 => k _ ?_))
  by_cases g : D ≤ 0
  · exact Or.inl g
  · rcases h3 with h3 | h3
    · omega
    · refine Or.inr ⟨?_, h3.2⟩
      have e := h3.1
      rw [h1] at e
      exact e
theorem wq_X7_current {post : Int32 → Prop} {s0 : Md} {x1 : Int32} {N R W D : Int} (h100034 : mb (N) (R) (W) (D) s0) (h100035 : 0 ≤ (x1).toInt ∧ (x1).toInt < 40) (k : ∀ (r : Int32), post r) : wp_X7_current post s0 x1 := by
  unfold wp_X7_current
  have := h100034.1
  have := h100034.2.1
  have := h100034.2.2.1
  have := h100034.2.2.2.1
  have p100036 : 0 ≤ (x1).toInt ∧ (x1).toInt < 40 := by omega
  refine wq_X7_of_0 h100034 p100036 (fun r_1 q100037 q100038 => ?_)
  have p100039 : 0 ≤ (r_1).toInt ∧ (r_1).toInt < 4 := by omega
  refine wq_X7_currentOf p100039 (fun r_3 => ?_)
  exact k _

theorem rem_p {x d : Int32} (hx : 0 ≤ x.toInt) (hd : 0 < d.toInt) : (x - x / d * d).toInt = x.toInt % d.toInt := by
  have q := dv_l (x := x) (d := d) rfl hd hx
  have hr := tq_r x
  have a := Int.ediv_nonneg hx (Int.le_of_lt hd)
  have y0 : 0 ≤ d.toInt * (x.toInt / d.toInt) := Int.mul_nonneg (Int.le_of_lt hd) a
  have m0 := Int.mul_ediv_add_emod x.toInt d.toInt
  have m1 := Int.emod_nonneg x.toInt (show d.toInt ≠ 0 by omega)
  have m2 := Int.emod_lt_of_pos x.toInt hd
  have e1 := tq_mul (x / d) d
  rw [q, Int.mul_comm (x.toInt / d.toInt) d.toInt] at e1
  generalize hY : d.toInt * (x.toInt / d.toInt) = Y at e1 m0 y0
  generalize hM : x.toInt % d.toInt = M at m0 m1 m2
  have e2 := nw e1 (by omega)
  have e3 := nw (tq_sub x (x / d * d)) (by omega)
  omega
theorem mod_s {a n : Int} (h1 : 0 ≤ a) (h2 : a < 2 * n) : (a < n ∧ a % n = a) ∨ (n ≤ a ∧ a % n = a - n) := by
  by_cases h : a < n
  · exact Or.inl ⟨h, Int.emod_eq_of_lt h1 h⟩
  · refine Or.inr ⟨by omega, ?_⟩
    have e : a % n = (a - n) % n := (Int.sub_emod_right a n).symm
    rw [e]
    exact Int.emod_eq_of_lt (by omega) (by omega)
theorem wq_X7_on {post : Int32 → Prop} {x0 x1 x2 : Int32} (h : 1 ≤ x2.toInt ∧ x2.toInt ≤ 40) (h0 : 0 ≤ x0.toInt ∧ x0.toInt < x2.toInt) (h1 : 0 ≤ x1.toInt ∧ x1.toInt < x2.toInt) (k : ∀ r : Int32, (x0.toInt ≤ x1.toInt ∧ r.toInt = x1.toInt - x0.toInt) ∨ (x1.toInt < x0.toInt ∧ r.toInt = x1.toInt - x0.toInt + x2.toInt) → post r) : wp_X7_on post x0 x1 x2 := by
  unfold wp_X7_on
  have e0 : (0 : Int32).toInt = 0 := rfl
  have e1 := nw (tq_sub x1 x0) (by omega)
  have e2 := nw (tq_add (x1 - x0) x2) (by omega)
  have e3 := rem_p (x := (x1 - x0) + x2) (d := x2) (by omega) (by omega)
  have e4 := mod_s (a := ((x1 - x0) + x2).toInt) (n := x2.toInt) (by omega) (by omega)
  exact ⟨z_ne (by omega), k _ (by omega)⟩
theorem wq_X7_leftOf {post : Int32 → Prop} {s0 : Md} {x1 : Int32} {N R W D : Int} (h100040 : mb (N) (R) (W) (D) s0) (h100041 : 0 ≤ (x1).toInt ∧ (x1).toInt < 40) (h100042 : 0 < D) (k : ∀ (r : Int32), (r).toInt = lf_c ((s0.2.2.1 0)) x1 → 0 ≤ (r).toInt ∧ (r).toInt ≤ 39 → post r) : wp_X7_leftOf post s0 x1 := by
  unfold wp_X7_leftOf
  have := h100040.1
  have := h100040.2.1
  have := h100040.2.2.1
  have := h100040.2.2.2.1
  have p100043 : 0 ≤ (x1).toInt ∧ (x1).toInt < 40 := by omega
  refine wq_X7_of_2 h100040 p100043 (fun r_1 q100044 q100045 => ?_)
  have p100046 : 0 ≤ (x1).toInt ∧ (x1).toInt < 40 := by omega
  refine wq_X7_of_3 h100040 p100046 (fun r_3 q100047 q100048 => ?_)
  have p100049 : 0 ≤ (x1).toInt ∧ (x1).toInt < 40 := by omega
  refine wq_X7_flaps h100040 p100049 (fun r_5 q100050 => ?_)
  have p100051 : 1 ≤ (r_5).toInt ∧ (r_5).toInt ≤ 40 := by omega
  have p100052 : 0 ≤ (r_1).toInt ∧ (r_1).toInt < (r_5).toInt := by omega
  have p100053 : 0 ≤ (r_3).toInt ∧ (r_3).toInt < (r_5).toInt := by omega
  refine wq_X7_on p100051 p100052 p100053 (fun r_7 q100054 => ?_)
  have := lf_d (s0.2.2.1 0) x1
  have p100055 : (r_7).toInt = lf_c ((s0.2.2.1 0)) x1 := by omega
  have p100056 : 0 ≤ (r_7).toInt ∧ (r_7).toInt ≤ 39 := by omega
  exact k _ p100055 p100056
theorem wq_X7_bits_L4 {post : Int32 → Prop} {e32 : Int64 → Int32 → Int32 → Prop} (ke32 : ∀ (w0 : Int64) (z2 : Int32) (z3 : Int32), 0 ≤ (z3).toInt ∧ (z3).toInt ≤ 64 → e32 w0 z2 z3) : ∀ (n : Nat) (w0 : Int64) (z2 : Int32) (z3 : Int32), 0 ≤ (z3).toInt ∧ (z3).toInt ≤ 64 → 64 - (z3).toInt < (n : Int) → wp_X7_bits_L4 post e32 n w0 z2 z3 := by
  intro n
  induction n with
  | zero =>
    intro w0 z2 z3 i100057 i100058
    exfalso
    omega
  | succ n ih =>
    intro w0 z2 z3 i100057 i100058
    unfold wp_X7_bits_L4
    refine ⟨fun c100059 => ?_, fun c100060 => ?_⟩
    · replace c100059 := q_le c100059
      rw [li_64] at c100059
      have p100061 : 0 ≤ (z3).toInt ∧ (z3).toInt ≤ 64 := by omega
      exact ke32 _ _ _ p100061
    · replace c100060 := q_nle c100060
      rw [li_64] at c100060
      refine wq_X7_isIn (fun r_2 q100062 => ?_)
      refine ⟨fun c100063 => ?_, fun c100064 => ?_⟩
      · replace c100063 := q_eq c100063
        rw [li_0] at c100063
        have e100065 := tq_addr li_1 z3
        try rw [Int.emod_eq_of_lt (show 0 ≤ (z3).toInt + 1 + 2147483648 by omega) (show (z3).toInt + 1 + 2147483648 < 4294967296 by omega)] at e100065
        have p100066 : 0 ≤ (z3 + 1).toInt ∧ (z3 + 1).toInt ≤ 64 := by omega
        have p100067 : 64 - (z3 + 1).toInt < ((n : Nat) : Int) := by (omega)
        exact ih _ _ _ p100066 p100067
      · replace c100064 := q_neq c100064
        rw [li_0] at c100064
        have e100068 := tq_addr li_1 z3
        try rw [Int.emod_eq_of_lt (show 0 ≤ (z3).toInt + 1 + 2147483648 by omega) (show (z3).toInt + 1 + 2147483648 < 4294967296 by omega)] at e100068
        have p100069 : 0 ≤ (z3 + 1).toInt ∧ (z3 + 1).toInt ≤ 64 := by omega
        have p100070 : 64 - (z3 + 1).toInt < ((n : Nat) : Int) := by (omega)
        exact ih _ _ _ p100069 p100070
theorem wq_X7_bits {post : Int32 → Prop} {y0 : Int64} (k : ∀ (r : Int32), post r) : wp_X7_bits post y0 := by
  unfold wp_X7_bits
  have p100071 : 0 ≤ (0 : Int32).toInt ∧ (0 : Int32).toInt ≤ 64 := by (have := li_0; omega)
  obtain ⟨f100072, g100073⟩ := fu_e 100
  have p100074 : 64 - (0 : Int32).toInt < (f100072 : Int) := by (have := li_0; omega)
  refine ⟨f100072, wq_X7_bits_L4 (fun w0 z2 z3 q100075 => ?_) f100072 _ _ _ p100071 p100074⟩
  exact k _
theorem c_at {f : Nat → Int64} {c j : Nat} {v : Int64} : c_f (vp_updL f (176 + 8 * c + j) v) c j = v.toInt := by
  unfold c_f
  rw [ul_at]
theorem c_ne {f : Nat → Int64} {c j i : Nat} {v : Int64} (h : ¬ 176 + 8 * c + j = i) : c_f (vp_updL f i v) c j = c_f f c j := by
  unfold c_f
  rw [ul_ne h]
theorem d_ne {f : Nat → Int64} {d i : Nat} {v : Int64} (h : ¬ 8 + 42 * d + 1 = i) : d_f (vp_updL f i v) d = d_f f d := by
  unfold d_f
  rw [ul_ne h]
def st_i (n sh be lo sh2 be2 lo2 : Int) : Prop := (0 < lo ∧ sh2 = sh ∧ lo2 = lo - 1 ∧ ((be + 1 < n ∧ be2 = be + 1) ∨ (n ≤ be + 1 ∧ be2 = 0))) ∨ (lo = 0 ∧ lo2 = 0 ∧ ((n ≤ sh + 1 ∧ sh2 = 0 ∧ be2 = 0) ∨ (sh + 1 < n ∧ sh2 = sh + 1 ∧ ((be + 1 < n ∧ be2 = be + 1) ∨ (n ≤ be + 1 ∧ be2 = 0)))))
def st_r (f g : Nat → Int64) (c : Nat) : Prop := (∀ i, rw_rel i → ¬ (176 + 8 * c ≤ i ∧ i < 176 + 8 * c + 8) → g i = f i) ∧ c_f g c 0 = c_f f c 0 ∧ c_f g c 3 = c_f f c 3 ∧ st_i (d_f f (c_f f c 0).toNat) (c_f f c 1) (c_f f c 2) (c_f f c 4) (c_f g c 1) (c_f g c 2) (c_f g c 4)
theorem inc_m {r n : Int32} (h : 0 ≤ r.toInt ∧ r.toInt < n.toInt ∧ n.toInt ≤ 40) : (r.toInt + 1 < n.toInt ∧ (Int32.toInt64 ((r + 1) - (r + 1) / n * n)).toInt = r.toInt + 1) ∨ (n.toInt ≤ r.toInt + 1 ∧ (Int32.toInt64 ((r + 1) - (r + 1) / n * n)).toInt = 0) := by
  have a : (1 : Int32).toInt = 1 := rfl
  have e1 := nw (tq_addr a r) (by omega)
  have e2 := rem_p (x := r + 1) (d := n) (by omega) (by omega)
  have e3 := mod_s (a := (r + 1).toInt) (n := n.toInt) (by omega) (by omega)
  rw [tq_64]
  omega
theorem mb_6 {N R W D : Int} {s : Md} {i : Nat} {v : Int64} (h : mb N R W D s) (hi : ¬ rw_rel i) : mb N R W D (s.1, s.2.1, (va_up s.2.2.1 0 (vp_updL (s.2.2.1 0) i v)), s.2.2.2) := mb_now h rfl (fun k hk => by
  show (if k = 0 then _ else s.2.2.1 k) = _
  rw [if_neg hk]) rfl (rw_irr h.2.2.2.2.1 hi)
theorem wq_X7_steps {post : Md → Prop} {s0 : Md} {x1 : Int32} {N R W D : Int} (h : mb N R W D s0) (hx : 0 ≤ x1.toInt ∧ x1.toInt < 40) (hD : 0 < D) (k : ∀ u : Md, mb N R W D u → ie [] u.1 s0.1 → u.2.1 = s0.2.1 ∧ u.2.2.2 = s0.2.2.2 → st_r (s0.2.2.1 0) (u.2.2.1 0) x1.toInt.toNat → post u) : wp_X7_steps post s0 x1 := by
  unfold wp_X7_steps
  have e0 : (0 : Int32).toInt = 0 := rfl
  have e1 : (1 : Int32).toInt = 1 := rfl
  have hk := rw_k h.2.2.2.2.1 hx
  have hr6 : ¬ rw_rel (Int32.toNatClampNeg 6) := by
    unfold rw_rel
    decide
  have hr7 : ¬ rw_rel (Int32.toNatClampNeg 7) := by
    unfold rw_rel
    decide
  have n6 : Int32.toNatClampNeg 6 = 6 := rfl
  have n7 : Int32.toNatClampNeg 7 = 7 := rfl
  refine wq_X7_of_2 h hx (fun r1 a1 b1 => wq_X7_flaps h hx (fun r3 a3 => ⟨z_ne (by omega), ?_⟩))
  have i1 := inc_m (r := r1) (n := r3) (by omega)
  refine wq_X7_sets_2 h hx (by omega) (fun u7 h7 j7 x7 => ?_)
  refine wq_X7_of_g h7 hx (by decide) (fun r8 => ?_)
  refine wq_X7_sets_5 h7 hx (fun u11 h11 j11 x11 => ?_)
  generalize hv1 : Int32.toInt64 ((r1 + 1) - (r1 + 1) / r3 * r3) = v1 at i1 x7
  generalize Int32.toInt64 (r8 + 1) = v2 at x11
  have hT := mb_6 (v := (((u11.2.2.1 0) (Int32.toNatClampNeg 6)) + 1)) h11 hr6
  generalize hv3 : (((u11.2.2.1 0) (Int32.toNatClampNeg 6)) + 1) = v3 at hT
  -- the row so far
  have row : ∃ gT : Nat → Int64, gT = vp_updL (u11.2.2.1 0) (Int32.toNatClampNeg 6) v3 := ⟨_, rfl⟩
  obtain ⟨gT, hgT⟩ := row
  generalize hTt : ((u11.1, u11.2.1, (va_up u11.2.2.1 0 (vp_updL (u11.2.2.1 0) (Int32.toNatClampNeg 6) v3)), u11.2.2.2) : Md) = T at hT ⊢
  have T1 : T.1 = u11.1 := by rw [← hTt]
  have T2 : T.2.1 = u11.2.1 := by rw [← hTt]
  have T3 : T.2.2.2 = u11.2.2.2 := by rw [← hTt]
  have eT : T.2.2.1 0 = gT := by
    rw [← hTt, hgT]
    rfl
  rw [x11.2.2, x7.2.2, n6] at hgT
  have c0 : c_f gT x1.toInt.toNat 0 = cw (s0.2.2.1 0) x1 0 := by
    rw [hgT, c_ne (by omega), c_ne (by omega), c_ne (by omega)]
    rfl
  have c1 : c_f gT x1.toInt.toNat 1 = cw (s0.2.2.1 0) x1 1 := by
    rw [hgT, c_ne (by omega), c_ne (by omega), c_ne (by omega)]
    rfl
  have c2 : c_f gT x1.toInt.toNat 2 = v1.toInt := by
    rw [hgT, c_ne (by omega), c_ne (by omega), c_at]
  have c3 : c_f gT x1.toInt.toNat 3 = cw (s0.2.2.1 0) x1 3 := by
    rw [hgT, c_ne (by omega), c_ne (by omega), c_ne (by omega)]
    rfl
  have c4 : c_f gT x1.toInt.toNat 4 = cw (s0.2.2.1 0) x1 4 := by
    rw [hgT, c_ne (by omega), c_ne (by omega), c_ne (by omega)]
    rfl
  have cd : fl_c gT x1 = fl_c (s0.2.2.1 0) x1 := by
    unfold fl_c
    rw [c0]
    have l := hk.1
    unfold cw at l
    rw [hgT, d_ne (by omega), d_ne (by unfold cw; omega), d_ne (by unfold cw; omega)]
    rfl
  have out : ∀ i, rw_rel i → ¬ (176 + 8 * x1.toInt.toNat ≤ i ∧ i < 176 + 8 * x1.toInt.toNat + 8) → gT i = s0.2.2.1 0 i := fun i hi hn => by
    have n6i : ¬ i = 6 := fun e => hr6 (by rw [n6, ← e]; exact hi)
    rw [hgT, ul_ne n6i, ul_ne (by omega), ul_ne (by omega)]
  have p2 : ∀ q : Md, q.2.1 = T.2.1 → q.2.1 = s0.2.1 := fun q e => e.trans (T2.trans (x11.1.trans x7.1))
  have p3 : ∀ q : Md, q.2.2.2 = T.2.2.2 → q.2.2.2 = s0.2.2.2 := fun q e => e.trans (T3.trans (x11.2.1.trans x7.2.1))
  have p1 : ∀ q : Md, ie [] q.1 T.1 → ie [] q.1 s0.1 := fun q e => ie_tr e (by decide) (ie_tr (T1 ▸ j11) (by decide) j7)
  refine wq_X7_of_4 hT hx (fun r12 a12 b12 => ⟨fun g => ?_, fun g => ?_⟩)
  · have g2 := q_le g
    refine wq_X7_of_1 hT hx (fun r15 a15 b15 => wq_X7_flaps hT hx (fun r17 a17 => ⟨z_ne (by omega), ?_⟩))
    rw [eT] at a12 a15 a17 b15
    unfold cw at a12 a15
    rw [c4] at a12
    rw [c1] at a15
    rw [cd] at a17 b15
    have i2 := inc_m (r := r15) (n := r17) (by omega)
    refine wq_X7_sets_1 hT hx (by rw [eT, cd]; omega) (fun u21 h21 j21 x21 => ?_)
    generalize hv4 : Int32.toInt64 ((r15 + 1) - (r15 + 1) / r17 * r17) = v4 at i2 x21
    have x21r := x21.2.2
    rw [eT] at x21r
    have s0' : c_f (u21.2.2.1 0) x1.toInt.toNat 0 = cw (s0.2.2.1 0) x1 0 := by rw [x21r, c_ne (by omega), c0]
    have s1' : c_f (u21.2.2.1 0) x1.toInt.toNat 1 = v4.toInt := by rw [x21r, c_at]
    have s2' : c_f (u21.2.2.1 0) x1.toInt.toNat 2 = v1.toInt := by rw [x21r, c_ne (by omega), c2]
    have s3' : c_f (u21.2.2.1 0) x1.toInt.toNat 3 = cw (s0.2.2.1 0) x1 3 := by rw [x21r, c_ne (by omega), c3]
    have s4' : c_f (u21.2.2.1 0) x1.toInt.toNat 4 = cw (s0.2.2.1 0) x1 4 := by rw [x21r, c_ne (by omega), c4]
    have out2 : ∀ i, rw_rel i → ¬ (176 + 8 * x1.toInt.toNat ≤ i ∧ i < 176 + 8 * x1.toInt.toNat + 8) → u21.2.2.1 0 i = s0.2.2.1 0 i := fun i hi hn => by
      rw [x21r, ul_ne (by omega)]
      exact out i hi hn
    refine wq_X7_of_1 h21 hx (fun r22 a22 b22 => ⟨fun g => ?_, fun g => ?_⟩)
    · have g3 := q_eq g
      unfold cw at a22
      rw [s1'] at a22
      refine wq_X7_of_g h21 hx (by decide) (fun r25 => ?_)
      refine wq_X7_sets_6 h21 hx (fun u28 h28 j28 x28 => ?_)
      generalize Int32.toInt64 (r25 + ((r1 + 1) - (r1 + 1) / r3 * r3)) = v5 at x28
      have hT7 := mb_6 (v := (((u28.2.2.1 0) (Int32.toNatClampNeg 7)) + v1)) h28 hr7
      have f0 : fl_c (s0.2.2.1 0) x1 = fl_c (s0.2.2.1 0) x1 := rfl
      have l0 : (0 : Int64).toInt = 0 := rfl
      refine wq_X7_sets_2 hT7 hx ⟨by decide, Or.inr ⟨hD, ?_⟩⟩ (fun u30 h30 j30 x30 => ?_)
      · have q := rw_k hT7.2.2.2.2.1 hx
        rw [l0]
        omega
      · have x30r : u30.2.2.1 0 = vp_updL (vp_updL (u28.2.2.1 0) 7 (((u28.2.2.1 0) (Int32.toNatClampNeg 7)) + v1)) (176 + 8 * x1.toInt.toNat + 2) 0 := x30.2.2
        generalize (((u28.2.2.1 0) (Int32.toNatClampNeg 7)) + v1) = v6 at x30r
        rw [x28.2.2] at x30r
        refine k u30 h30 (p1 u30 (ie_tr j30 (by decide) (ie_tr j28 (by decide) j21))) ⟨p2 u30 (x30.1.trans (x28.1.trans x21.1)), p3 u30 (x30.2.1.trans (x28.2.1.trans x21.2.1))⟩ ⟨fun i hi hn => ?_, ?_, ?_, ?_⟩
        · have n7i : ¬ i = 7 := fun e => hr7 (by rw [n7, ← e]; exact hi)
          rw [x30r, ul_ne (by omega), ul_ne n7i, ul_ne (by omega)]
          exact out2 i hi hn
        · rw [x30r, c_ne (by omega), c_ne (by omega), c_ne (by omega), s0']
          rfl
        · rw [x30r, c_ne (by omega), c_ne (by omega), c_ne (by omega), s3']
          rfl
        · have t1 : c_f (u30.2.2.1 0) x1.toInt.toNat 1 = v4.toInt := by rw [x30r, c_ne (by omega), c_ne (by omega), c_ne (by omega), s1']
          have t2 : c_f (u30.2.2.1 0) x1.toInt.toNat 2 = 0 := by
            rw [x30r, c_at]
            rfl
          have t4 : c_f (u30.2.2.1 0) x1.toInt.toNat 4 = cw (s0.2.2.1 0) x1 4 := by rw [x30r, c_ne (by omega), c_ne (by omega), c_ne (by omega), s4']
          show st_i (fl_c (s0.2.2.1 0) x1) (cw (s0.2.2.1 0) x1 1) (cw (s0.2.2.1 0) x1 2) (cw (s0.2.2.1 0) x1 4) _ _ _
          rw [t1, t2, t4]
          unfold st_i
          right
          omega
    · have g3 := q_neq g
      unfold cw at a22
      rw [s1'] at a22
      refine k u21 h21 (p1 u21 j21) ⟨p2 u21 x21.1, p3 u21 x21.2.1⟩ ⟨out2, s0', s3', ?_⟩
      show st_i (fl_c (s0.2.2.1 0) x1) (cw (s0.2.2.1 0) x1 1) (cw (s0.2.2.1 0) x1 2) (cw (s0.2.2.1 0) x1 4) _ _ _
      rw [s1', s2', s4']
      unfold st_i
      right
      omega
  · have g2 := q_nle g
    refine wq_X7_of_4 hT hx (fun r31 a31 b31 => ?_)
    rw [eT] at a12 a31
    unfold cw at a12 a31
    rw [c4] at a12 a31
    have m1 := nw (tq_subr e1 r31) (by omega)
    have m2 := tq_64 (r31 - 1)
    refine wq_X7_sets_4 hT hx (by omega) (fun u34 h34 j34 x34 => ?_)
    have x34r := x34.2.2
    rw [eT] at x34r
    refine k u34 h34 (p1 u34 j34) ⟨p2 u34 x34.1, p3 u34 x34.2.1⟩ ⟨fun i hi hn => ?_, ?_, ?_, ?_⟩
    · rw [x34r, ul_ne (by omega)]
      exact out i hi hn
    · rw [x34r, c_ne (by omega), c0]
      rfl
    · rw [x34r, c_ne (by omega), c3]
      rfl
    · have t1 : c_f (u34.2.2.1 0) x1.toInt.toNat 1 = cw (s0.2.2.1 0) x1 1 := by rw [x34r, c_ne (by omega), c1]
      have t2 : c_f (u34.2.2.1 0) x1.toInt.toNat 2 = v1.toInt := by rw [x34r, c_ne (by omega), c2]
      have t4 : c_f (u34.2.2.1 0) x1.toInt.toNat 4 = (Int32.toInt64 (r31 - 1)).toInt := by rw [x34r, c_at]
      show st_i (fl_c (s0.2.2.1 0) x1) (cw (s0.2.2.1 0) x1 1) (cw (s0.2.2.1 0) x1 2) (cw (s0.2.2.1 0) x1 4) _ _ _
      rw [t1, t2, t4]
      unfold st_i
      left
      omega

theorem wb_tb (n : Nat) : (lN n).toBitVec = BitVec.ofNat 64 n := rfl
theorem wb_inj {a b : Int64} (h : a.toBitVec = b.toBitVec) : a = b := Int64.toBitVec_inj.mp h
theorem wb_tn {n : Nat} (h : n < 2 ^ 64) : (lN n).toBitVec.toNat = n := by rw [wb_tb, BitVec.toNat_ofNat, Nat.mod_eq_of_lt h]
theorem wb_of (x : Int64) : ∃ n, n < 2 ^ 64 ∧ x = lN n := ⟨x.toBitVec.toNat, x.toBitVec.isLt, wb_inj (by rw [wb_tb]; simp)⟩
theorem wb_c : ∀ k, k < 64 → ((nI k).toInt64 &&& 63) = lN k := by decide +kernel
theorem wb_cu : ∀ k, k < 64 → ((nI k).toInt64.toUInt64 &&& Int64.toUInt64 63) = UInt64.ofNat k := by decide +kernel
theorem wb_sm : ∀ k, k < 64 → (BitVec.ofNat 64 k).smod 64 = BitVec.ofNat 64 k := by decide +kernel
theorem wb_lt2 {a b : Nat} (h : a < b) : 2 ^ a < 2 ^ b := Nat.pow_lt_pow_right (by decide) h
theorem wb_shr {n k : Nat} (hn : n < 2 ^ 64) (hk : k < 64) : ((lN n).toUInt64 >>> ((nI k).toInt64.toUInt64 &&& Int64.toUInt64 63)).toInt64 = lN (n / 2 ^ k) := by
  rw [wb_cu k hk]
  apply wb_inj
  apply BitVec.eq_of_toNat_eq
  show ((lN n).toUInt64 >>> UInt64.ofNat k).toNat = (BitVec.ofNat 64 _).toNat
  have h1 : (UInt64.ofNat k).toNat = k := by
    show (BitVec.ofNat 64 k).toNat = k
    rw [BitVec.toNat_ofNat, Nat.mod_eq_of_lt (by omega)]
  have h2 : (lN n).toUInt64.toNat = n := wb_tn hn
  rw [UInt64.toNat_shiftRight, h1, h2, Nat.mod_eq_of_lt hk, Nat.shiftRight_eq_div_pow, BitVec.toNat_ofNat, Nat.mod_eq_of_lt (Nat.lt_of_le_of_lt (Nat.div_le_self _ _) hn)]
theorem wb_shl (n : Nat) {k : Nat} (hk : k < 64) : lN n <<< ((nI k).toInt64 &&& 63) = lN (n * 2 ^ k) := by
  rw [wb_c k hk]
  apply wb_inj
  rw [Int64.toBitVec_shiftLeft, wb_tb, wb_tb, wb_tb, wb_sm k hk]
  apply BitVec.eq_of_toNat_eq
  rw [BitVec.shiftLeft_eq', BitVec.toNat_shiftLeft, BitVec.toNat_ofNat, BitVec.toNat_ofNat, BitVec.toNat_ofNat, Nat.mod_eq_of_lt (show k < 2 ^ 64 by omega), Nat.shiftLeft_eq, Nat.mul_mod, Nat.mod_mod, ← Nat.mul_mod]
theorem wb_and {a b : Nat} (ha : a < 2 ^ 64) (hb : b < 2 ^ 64) : lN a &&& lN b = lN (a &&& b) := by
  apply wb_inj
  rw [Int64.toBitVec_and, wb_tb, wb_tb, wb_tb]
  apply BitVec.eq_of_toNat_eq
  rw [BitVec.toNat_and, BitVec.toNat_ofNat, BitVec.toNat_ofNat, BitVec.toNat_ofNat, Nat.mod_eq_of_lt ha, Nat.mod_eq_of_lt hb, Nat.mod_eq_of_lt (Nat.and_lt_two_pow _ hb)]
theorem wb_or {a b : Nat} (ha : a < 2 ^ 64) (hb : b < 2 ^ 64) : lN a ||| lN b = lN (a ||| b) := by
  apply wb_inj
  rw [Int64.toBitVec_or, wb_tb, wb_tb, wb_tb]
  apply BitVec.eq_of_toNat_eq
  rw [BitVec.toNat_or, BitVec.toNat_ofNat, BitVec.toNat_ofNat, BitVec.toNat_ofNat, Nat.mod_eq_of_lt ha, Nat.mod_eq_of_lt hb, Nat.mod_eq_of_lt (Nat.or_lt_two_pow ha hb)]
theorem wb_mask {n k : Nat} (hn : n < 2 ^ 64) (hk : k < 64) : lN n &&& lN (2 ^ k - 1) = lN (n % 2 ^ k) := by
  rw [wb_and hn (by have := wb_lt2 hk; omega), Nat.and_two_pow_sub_one_eq_mod]
theorem wb_a1 {n : Nat} (hn : n < 2 ^ 64) : lN n &&& 1 = lN (n % 2) := wb_mask (k := 1) hn (by decide)
theorem wb_bit {n k : Nat} (hn : n < 2 ^ 64) (hk : k < 64) : ((lN n).toUInt64 >>> ((nI k).toInt64.toUInt64 &&& Int64.toUInt64 63)).toInt64 &&& 1 = lN (n / 2 ^ k % 2) := by
  rw [wb_shr hn hk, wb_a1 (Nat.lt_of_le_of_lt (Nat.div_le_self _ _) hn)]
/-! Sets as bits. -/
theorem nI_z {z : Int32} (h : 0 ≤ z.toInt) : z = nI z.toInt.toNat := Int32.toInt_inj.mp (by
  have r := tq_r z
  have e : (nI z.toInt.toNat).toInt = ((z.toInt.toNat : Nat) : Int) := Int32.toInt_ofNat_of_lt (by omega)
  rw [e]
  omega)
def bs_at (y : Int64) (k : Nat) : Bool := y.toBitVec.toNat.testBit k
theorem bs_0 (k : Nat) : bs_at 0 k = false := by
  unfold bs_at
  show (0 : Nat).testBit k = false
  exact Nat.zero_testBit k
theorem bs_or {y : Int64} {z : Int32} {k : Nat} (hz : 0 ≤ z.toInt ∧ z.toInt < 40) : bs_at (y ||| ((1 : Int64) <<< (Int32.toInt64 z &&& 63))) k = (bs_at y k || decide (z.toInt.toNat = k)) := by
  obtain ⟨n, hn, e⟩ := wb_of y
  have e2 := nI_z hz.1
  generalize hj : z.toInt.toNat = j at e2
  have hj2 : j < 64 := by omega
  subst e
  rw [e2, show (1 : Int64) = lN 1 from rfl, wb_shl 1 hj2, Nat.one_mul, wb_or hn (wb_lt2 hj2)]
  unfold bs_at
  rw [wb_tn hn, wb_tn (Nat.or_lt_two_pow hn (wb_lt2 hj2)), Nat.testBit_or, Nat.testBit_two_pow]
theorem bs_in {y : Int64} {x : Int32} (hx : 0 ≤ x.toInt ∧ x.toInt < 64) : (lg_cmp ((((y).toUInt64 >>> ((Int32.toInt64 x).toUInt64 &&& Int64.toUInt64 63)).toInt64) &&& 1) 1) = 0 ↔ bs_at y x.toInt.toNat = true := by
  obtain ⟨n, hn, e⟩ := wb_of y
  have e2 := nI_z hx.1
  generalize hj : x.toInt.toNat = j at e2
  have hj2 : j < 64 := by omega
  subst e
  rw [lg_cmp_eq, e2, wb_bit hn hj2]
  unfold bs_at
  rw [wb_tn hn, Nat.testBit_eq_decide_div_mod_eq, decide_eq_true_eq]
  have l : n / 2 ^ j % 2 < 2 := Nat.mod_lt _ (by decide)
  constructor
  · intro h
    have g : ∀ m, m < 2 → lN m = 1 → m = 1 := by decide
    exact g _ l h
  · intro h
    rw [h]
    rfl
theorem wq_X7_isInB {post : Int32 → Prop} {y0 : Int64} {x2 : Int32} (hx : 0 ≤ x2.toInt ∧ x2.toInt < 64) (k : ∀ r : Int32, (r.toInt = 1 ∧ bs_at y0 x2.toInt.toNat = true) ∨ (r.toInt = 0 ∧ bs_at y0 x2.toInt.toNat = false) → post r) : wp_X7_isIn post y0 x2 := by
  unfold wp_X7_isIn
  refine ⟨fun c => k _ (Or.inr ⟨rfl, ?_⟩), fun c => k _ (Or.inl ⟨rfl, (bs_in hx).mp c⟩)⟩
  cases h : bs_at y0 x2.toInt.toNat with
  | false => rfl
  | true => exact absurd ((bs_in hx).mpr h) c
/-! Who turns; how far it is to rest. -/
def lf_n (f : Nat → Int64) (c : Nat) : Int := if c_f f c 2 ≤ c_f f c 3 then c_f f c 3 - c_f f c 2 else c_f f c 3 - c_f f c 2 + d_f f (c_f f c 0).toNat
def m_n (f : Nat → Int64) (c : Nat) : Int := c_f f c 4 + (if c_f f c 4 = 0 ∧ c_f f c 1 = c_f f c 2 then lf_n f c else 2 * d_f f (c_f f c 0).toNat - c_f f c 1)
def mu_n (f : Nat → Int64) : Nat → Int
  | 0 => 0
  | n + 1 => mu_n f n + m_n f n
theorem lf_nd (f : Nat → Int64) (c : Nat) : (c_f f c 2 ≤ c_f f c 3 ∧ lf_n f c = c_f f c 3 - c_f f c 2) ∨ (c_f f c 3 < c_f f c 2 ∧ lf_n f c = c_f f c 3 - c_f f c 2 + d_f f (c_f f c 0).toNat) := by
  unfold lf_n
  by_cases h : c_f f c 2 ≤ c_f f c 3
  · rw [if_pos h]
    exact Or.inl ⟨h, rfl⟩
  · rw [if_neg h]
    exact Or.inr ⟨by omega, rfl⟩
theorem m_nd (f : Nat → Int64) (c : Nat) : (c_f f c 4 = 0 ∧ c_f f c 1 = c_f f c 2 ∧ m_n f c = c_f f c 4 + lf_n f c) ∨ ((¬ c_f f c 4 = 0 ∨ ¬ c_f f c 1 = c_f f c 2) ∧ m_n f c = c_f f c 4 + (2 * d_f f (c_f f c 0).toNat - c_f f c 1)) := by
  unfold m_n
  by_cases h : c_f f c 4 = 0 ∧ c_f f c 1 = c_f f c 2
  · rw [if_pos h]
    exact Or.inl ⟨h.1, h.2, rfl⟩
  · rw [if_neg h]
    exact Or.inr ⟨by omega, rfl⟩
theorem m_b {R W D : Int} {f : Nat → Int64} {c : Nat} (hf : rw_ok R W D f) (hD : 0 < D) (hc : c < 40) : 0 ≤ m_n f c ∧ m_n f c ≤ 89 := by
  obtain ⟨q1, _, q3⟩ := hf.2.2.2.2.2.2.2 c hc
  have g := q3 hD
  have g2 := hf.2.2.2.2.2.2.1 (c_f f c 0).toNat (by omega)
  have a := lf_nd f c
  have b := m_nd f c
  omega
theorem mu_b {R W D : Int} {f : Nat → Int64} (hf : rw_ok R W D f) (hD : 0 < D) : ∀ n, n ≤ 40 → 0 ≤ mu_n f n ∧ mu_n f n ≤ 89 * n := by
  intro n
  induction n with
  | zero =>
    intro _
    unfold mu_n
    omega
  | succ n ih =>
    intro hn
    have := ih (by omega)
    have := m_b hf hD (c := n) (by omega)
    unfold mu_n
    omega
def r_eq (f g : Nat → Int64) (c : Nat) : Prop := ∀ i, rw_rel i → ¬ (176 + 8 * c ≤ i ∧ i < 176 + 8 * c + 8) → g i = f i
theorem r_c {f g : Nat → Int64} {c c2 j : Nat} (h : r_eq f g c) (h1 : c2 < 40) (h2 : ¬ c2 = c) (hj : j ≤ 4) : c_f g c2 j = c_f f c2 j := by
  unfold c_f
  rw [h _ (by unfold rw_rel; omega) (by omega)]
theorem r_d {f g : Nat → Int64} {c d : Nat} (h : r_eq f g c) (hd : d < 4) : d_f g d = d_f f d := rw_d (fun i a b => h i a (by omega)) hd
theorem r_m {R W D : Int} {f g : Nat → Int64} {c c2 : Nat} (hf : rw_ok R W D f) (h : r_eq f g c) (h1 : c2 < 40) (h2 : ¬ c2 = c) : m_n g c2 = m_n f c2 := by
  have q := (hf.2.2.2.2.2.2.2 c2 h1).1
  unfold m_n lf_n
  rw [r_c h h1 h2 (by omega : 0 ≤ 4), r_c h h1 h2 (by omega : 1 ≤ 4), r_c h h1 h2 (by omega : 2 ≤ 4), r_c h h1 h2 (by omega : 3 ≤ 4), r_c h h1 h2 (by omega : 4 ≤ 4), r_d h (by omega)]
theorem r_mu {R W D : Int} {f g : Nat → Int64} {c : Nat} {e : Int} (hf : rw_ok R W D f) (h : r_eq f g c) (he : m_n g c ≤ m_n f c - e) (h0 : 0 ≤ e) : ∀ n, n ≤ 40 → mu_n g n ≤ mu_n f n ∧ (c < n → mu_n g n ≤ mu_n f n - e) := by
  intro n
  induction n with
  | zero =>
    intro _
    unfold mu_n
    exact ⟨Int.le_refl _, fun h => absurd h (by omega)⟩
  | succ n ih =>
    intro hn
    have i := ih (by omega)
    unfold mu_n
    by_cases e2 : n = c
    · subst e2
      omega
    · have := r_m hf h (c2 := n) (by omega) e2
      refine ⟨by omega, fun h3 => ?_⟩
      have := i.2 (by omega)
      omega
theorem st_m {R W D : Int} {f g : Nat → Int64} {c : Nat} (hf : rw_ok R W D f) (hg : rw_ok R W D g) (hD : 0 < D) (hc : c < 40) (hl : 0 < lf_n f c) (h : st_r f g c) : m_n g c ≤ m_n f c - 1 := by
  obtain ⟨h1, h2, h3, h4⟩ := h
  have hd : d_f g (c_f g c 0).toNat = d_f f (c_f f c 0).toNat := by
    have q := (hf.2.2.2.2.2.2.2 c hc).1
    rw [h2]
    exact r_d h1 (by omega)
  obtain ⟨q1, _, q3⟩ := hf.2.2.2.2.2.2.2 c hc
  have g1 := q3 hD
  obtain ⟨p1, _, p3⟩ := hg.2.2.2.2.2.2.2 c hc
  have g2 := p3 hD
  have dd := hf.2.2.2.2.2.2.1 (c_f f c 0).toNat (by omega)
  have a := lf_nd f c
  have b := m_nd f c
  have a2 := lf_nd g c
  have b2 := m_nd g c
  rw [hd] at a2 b2 g2
  rw [h3] at a2 g2
  unfold st_i at h4
  omega
theorem mb_i {N R W D : Int} {s t : Md} (h : mb N R W D s) (h5 : t.1 5 = s.1 5) (h0 : t.1 0 = s.1 0) (h2 : t.2.2 = s.2.2) : mb N R W D t := by
  obtain ⟨a0, a1, a2, a3, a4, a5, a6, a7⟩ := h
  unfold mb
  rw [h5, h0, h2]
  exact ⟨a0, a1, a2, a3, a4, a5, a6, a7⟩
theorem wq_X7_findsTurning_L33 {post : Md → Prop} {e91 : Md → Int64 → Int32 → Int32 → Int32 → Prop} {t0 : Md} {w1 : Int64} {z3 : Int32} {N R W D : Int} (h : mb N R W D t0) (hD : 0 < D) (ke : ∀ z4 z5 : Int32, (z4.toInt = -1 ∨ (0 ≤ z4.toInt ∧ z4.toInt < R * W ∧ 0 < lf_c (t0.2.2.1 0) z4)) → e91 t0 w1 z3 z4 z5) : ∀ (n : Nat) (z4 z5 : Int32), (z4.toInt = -1 ∨ (0 ≤ z4.toInt ∧ z4.toInt < R * W ∧ 0 < lf_c (t0.2.2.1 0) z4)) → 0 ≤ z5.toInt ∧ z5.toInt ≤ R * W → R * W - z5.toInt < (n : Int) → wp_X7_findsTurning_L33 post e91 n t0 w1 z3 z4 z5 := by
  have pd := h.2.2.2.1
  have e1 : (1 : Int32).toInt = 1 := rfl
  have m1 : (-1 : Int32).toInt = -1 := rfl
  have e0 : (0 : Int32).toInt = 0 := rfl
  intro n
  induction n with
  | zero =>
    intro z4 z5 _ _ _
    exfalso
    omega
  | succ n ih =>
    intro z4 z5 i1 i2 i3
    unfold wp_X7_findsTurning_L33
    refine wq_X7_cells h (fun r4 a4 => ⟨fun c => ke _ _ i1, fun c => ?_⟩)
    have c2 := q_nle c
    have s5 := nw (tq_addr e1 z5) (by omega)
    have go : ∀ z : Int32, (z.toInt = -1 ∨ (0 ≤ z.toInt ∧ z.toInt < R * W ∧ 0 < lf_c (t0.2.2.1 0) z)) → wp_X7_findsTurning_L33 post e91 n t0 w1 z3 z (z5 + 1) := fun z hz => ih z (z5 + 1) hz (by omega) (by omega)
    refine wq_X7_isIn (fun r7 _ => ⟨fun _ => go _ i1, fun _ => ?_⟩)
    refine wq_X7_leftOf h (by omega) hD (fun r10 a10 b10 => ⟨fun _ => go _ i1, fun c3 => ?_⟩)
    have c4 := q_nle c3
    have new : z5.toInt = -1 ∨ (0 ≤ z5.toInt ∧ z5.toInt < R * W ∧ 0 < lf_c (t0.2.2.1 0) z5) := by omega
    refine ⟨fun _ => go _ new, fun c5 => ?_⟩
    have c6 := q_neq c5
    refine wq_X7_leftOf h (by omega) hD (fun r14 a14 b14 => wq_X7_leftOf h (by omega) hD (fun r16 a16 b16 => ⟨fun _ => go _ i1, fun _ => go _ new⟩))
def ft_I (N R W D : Int) (s t : Md) : Prop := mb N R W D t ∧ ie [1, 2] t.1 s.1 ∧ t.2.2 = s.2.2 ∧ 0 ≤ (t.1 1).toInt ∧ (∀ c, bs_at t.2.1 c = true → (c : Int) < R * W ∧ 0 < lf_n (s.2.2.1 0) c) ∧ (0 < (t.1 1).toInt → ∃ c, bs_at t.2.1 c = true)
theorem wq_X7_findsTurning_L19 {post : Md → Prop} {e174 : Md → Int64 → Int32 → Prop} {s : Md} {N R W D : Int} (hD : 0 < D) (ke : ∀ (t : Md) (w : Int64) (z : Int32), ft_I N R W D s t → (t.1 1).toInt ≤ 40 → e174 t w z) (k : ∀ t : Md, ft_I N R W D s t → (t.1 1).toInt ≤ 40 → post t) : ∀ (n : Nat) (t : Md) (w1 : Int64) (z3 : Int32), ft_I N R W D s t → (t.1 1).toInt ≤ z3.toInt → 0 ≤ z3.toInt ∧ z3.toInt ≤ R * W → R * W - z3.toInt < (n : Int) → wp_X7_findsTurning_L19 post e174 n t w1 z3 := by
  have e1 : (1 : Int32).toInt = 1 := rfl
  have m1 : (-1 : Int32).toInt = -1 := rfl
  have e0 : (0 : Int32).toInt = 0 := rfl
  intro n
  induction n with
  | zero =>
    intro t w1 z3 _ _ _ _
    exfalso
    omega
  | succ n ih =>
    intro t w1 z3 i1 i4 i2 i3
    have h := i1.1
    have pd := h.2.2.2.1
    unfold wp_X7_findsTurning_L19
    refine wq_X7_cells h (fun r1 a1 => ⟨fun c => ke _ _ _ i1 (by omega), fun c => ?_⟩)
    have c2 := q_nle c
    have s3 := nw (tq_addr e1 z3) (by omega)
    obtain ⟨nf, hf⟩ := fu_e 50
    refine ⟨nf, wq_X7_findsTurning_L33 h hD (fun z4 z5 hz => ?_) nf (-1) 0 (Or.inl m1) (by omega) (by omega)⟩
    refine ⟨fun c3 => ?_, fun c3 => k _ i1 (by omega)⟩
    have c4 := q_neq c3
    have hz2 : 0 ≤ z4.toInt ∧ z4.toInt < R * W ∧ 0 < lf_c (t.2.2.1 0) z4 := by omega
    refine wq_X7_current h (by omega) (fun r20 => ⟨fun _ => ?_, fun _ => ih _ _ _ i1 (by omega) (by omega) (by omega)⟩)
    have s1 := nw (tq_addr e1 (t.1 1)) (by have := i1.2.2.2.1; omega)
    have hb : ∀ c, bs_at (t.2.1 ||| ((1 : Int64) <<< (Int32.toInt64 z4 &&& 63))) c = (bs_at t.2.1 c || decide (z4.toInt.toNat = c)) := fun c => bs_or (by omega)
    refine wq_X7_current (N := N) (R := R) (W := W) (D := D) (mb_i h rfl rfl rfl) (by omega) (fun r23 => ih _ _ _ ⟨mb_i h rfl rfl rfl, ?_, i1.2.2.1, ?_, ?_, ?_⟩ ?_ (by omega) (by omega))
    · exact ie_up (ie_up i1.2.1 (by decide)) (by decide)
    · show 0 ≤ (t.1 1 + 1).toInt
      have := i1.2.2.2.1
      omega
    · intro c hc
      have hc2 : bs_at (t.2.1 ||| ((1 : Int64) <<< (Int32.toInt64 z4 &&& 63))) c = true := hc
      rw [hb c, Bool.or_eq_true, decide_eq_true_eq] at hc2
      rcases hc2 with g | g
      · exact i1.2.2.2.2.1 c g
      · subst g
        refine ⟨by omega, ?_⟩
        have q := hz2.2.2
        have e : t.2.2.1 0 = s.2.2.1 0 := by rw [i1.2.2.1]
        rw [e] at q
        exact q
    · intro _
      refine ⟨z4.toInt.toNat, ?_⟩
      show bs_at (t.2.1 ||| ((1 : Int64) <<< (Int32.toInt64 z4 &&& 63))) _ = true
      rw [hb]
      simp
    · show (t.1 1 + 1).toInt ≤ (z3 + 1).toInt
      have := i1.2.2.2.1
      omega
theorem wq_X7_findsTurning {post : Md → Prop} {s0 : Md} {N R W D : Int} (h : mb N R W D s0) (hD : 0 < D) (k : ∀ u : Md, ft_I N R W D s0 u → (u.1 1).toInt ≤ 40 → post u) : wp_X7_findsTurning post s0 := by
  unfold wp_X7_findsTurning
  have pd := h.2.2.2.1
  have e0 : (0 : Int32).toInt = 0 := rfl
  obtain ⟨nf, hf⟩ := fu_e 50
  refine ⟨nf, wq_X7_findsTurning_L19 (s := s0) hD (fun t w z a b => k t a b) (fun t a b => k t a b) nf _ _ _ ⟨mb_i h rfl rfl rfl, ie_up (ie_up (ie_refl _ _) (by decide)) (by decide), rfl, ?_, ?_, ?_⟩ ?_ (by omega) (by omega)⟩
  · show 0 ≤ (0 : Int32).toInt
    omega
  · intro c hc
    have : bs_at 0 c = true := hc
    rw [bs_0] at this
    exact absurd this (by decide)
  · intro hc
    have : 0 < (0 : Int32).toInt := hc
    omega
  · show (0 : Int32).toInt ≤ (0 : Int32).toInt
    omega

theorem r_lf {R W D : Int} {f g : Nat → Int64} {c c2 : Nat} (hf : rw_ok R W D f) (h : r_eq f g c) (h1 : c2 < 40) (h2 : ¬ c2 = c) : lf_n g c2 = lf_n f c2 := by
  have q := (hf.2.2.2.2.2.2.2 c2 h1).1
  unfold lf_n
  rw [r_c h h1 h2 (by omega : 0 ≤ 4), r_c h h1 h2 (by omega : 2 ≤ 4), r_c h h1 h2 (by omega : 3 ≤ 4), r_d h (by omega)]
theorem mu_eq {R W D : Int} {f g : Nat → Int64} (hf : rw_ok R W D f) (h : ∀ i, rw_rel i → g i = f i) : ∀ n, n ≤ 40 → mu_n g n = mu_n f n := by
  intro n
  induction n with
  | zero =>
    intro _
    rfl
  | succ n ih =>
    intro hn
    unfold mu_n
    rw [ih (by omega), r_m hf (c := 40) (fun i a _ => h i a) (c2 := n) (by omega) (by omega)]
def tk_J (N R W D : Int) (s t : Md) (z : Int) : Prop := mb N R W D t ∧ ie [] t.1 s.1 ∧ t.2.1 = s.2.1 ∧ (∀ c : Nat, c < 40 → z ≤ (c : Int) → lf_n (t.2.2.1 0) c = lf_n (s.2.2.1 0) c) ∧ mu_n (t.2.2.1 0) 40 ≤ mu_n (s.2.2.1 0) 40 ∧ ((∃ c : Nat, (c : Int) < z ∧ bs_at s.2.1 c = true) → mu_n (t.2.2.1 0) 40 < mu_n (s.2.2.1 0) 40)
theorem wq_X7_ticks_L6 {post : Int32 → Md → Prop} {e36 : Md → Int32 → Prop} {s : Md} {N R W D : Int} (hD : 0 < D) (hb : ∀ c, bs_at s.2.1 c = true → (c : Int) < R * W ∧ 0 < lf_n (s.2.2.1 0) c) (ke : ∀ (t : Md) (z : Int32), tk_J N R W D s t (R * W) → e36 t z) : ∀ (n : Nat) (t : Md) (z1 : Int32), tk_J N R W D s t z1.toInt → 0 ≤ z1.toInt ∧ z1.toInt ≤ R * W → R * W - z1.toInt < (n : Int) → wp_X7_ticks_L6 post e36 n t z1 := by
  have e1 : (1 : Int32).toInt = 1 := rfl
  have e0 : (0 : Int32).toInt = 0 := rfl
  intro n
  induction n with
  | zero =>
    intro t z1 _ _ _
    exfalso
    omega
  | succ n ih =>
    intro t z1 i1 i2 i3
    have h := i1.1
    have pd := h.2.2.2.1
    have s1 := nw (tq_addr e1 z1) (by omega)
    unfold wp_X7_ticks_L6
    refine wq_X7_cells h (fun r3 a3 => ⟨fun c => ke t z1 ?_, fun c => ?_⟩)
    · have c2 := q_le c
      have e : z1.toInt = R * W := by omega
      rw [← e]
      exact i1
    have c2 := q_nle c
    refine wq_X7_isInB (by omega) (fun r6 a6 => ⟨fun c3 => ?_, fun c3 => ?_⟩)
    · have c4 := q_eq c3
      have nb : bs_at t.2.1 z1.toInt.toNat = false := by
        rcases a6 with g | g
        · omega
        · exact g.2
      refine ih _ _ ⟨h, i1.2.1, i1.2.2.1, fun c hc hz => i1.2.2.2.1 c hc (by omega), i1.2.2.2.2.1, fun hx => i1.2.2.2.2.2 ?_⟩ (by omega) (by omega)
      obtain ⟨c, hc, hbc⟩ := hx
      refine ⟨c, ?_, hbc⟩
      have ne : ¬ c = z1.toInt.toNat := fun e => by
        rw [i1.2.2.1, ← e, hbc] at nb
        exact absurd nb (by decide)
      omega
    · have c4 := q_neq c3
      have yb : bs_at t.2.1 z1.toInt.toNat = true := by
        rcases a6 with g | g
        · exact g.2
        · omega
      have yb2 := yb
      rw [i1.2.2.1] at yb2
      have lz := hb _ yb2
      refine wq_X7_steps h (by omega) hD (fun u hu ju xu su => ih _ _ ⟨hu, ie_tr ju (by decide) i1.2.1, xu.1.trans i1.2.2.1, fun c hc hz => ?_, ?_, fun _ => ?_⟩ (by omega) (by omega))
      · have := r_lf h.2.2.2.2.1 su.1 hc (by omega : ¬ c = z1.toInt.toNat)
        rw [this]
        exact i1.2.2.2.1 c hc (by omega)
      · have l2 := i1.2.2.2.1 z1.toInt.toNat (by omega) (by omega)
        have m := st_m h.2.2.2.2.1 hu.2.2.2.2.1 hD (by omega) (by omega) su
        have m2 := r_mu (e := 1) h.2.2.2.2.1 su.1 m (by omega) 40 (by omega)
        have := i1.2.2.2.2.1
        omega
      · have l2 := i1.2.2.2.1 z1.toInt.toNat (by omega) (by omega)
        have m := st_m h.2.2.2.2.1 hu.2.2.2.2.1 hD (by omega) (by omega) su
        have m2 := (r_mu (e := 1) h.2.2.2.2.1 su.1 m (by omega) 40 (by omega)).2 (by omega)
        have := i1.2.2.2.2.1
        omega
theorem wq_X7_ticks {post : Int32 → Md → Prop} {s0 : Md} {N R W D : Int} (h : mb N R W D s0) (hD : 0 < D) (k : ∀ (r : Int32) (u : Md), mb N R W D u → ie [1, 2] u.1 s0.1 → 0 ≤ r.toInt ∧ r.toInt ≤ 40 → mu_n (u.2.2.1 0) 40 ≤ mu_n (s0.2.2.1 0) 40 ∧ (r.toInt ≤ 0 ∨ mu_n (u.2.2.1 0) 40 < mu_n (s0.2.2.1 0) 40) → post r u) : wp_X7_ticks post s0 := by
  unfold wp_X7_ticks
  have e0 : (0 : Int32).toInt = 0 := rfl
  have pd := h.2.2.2.1
  have hr4 : ¬ rw_rel (Int32.toNatClampNeg 4) := by
    unfold rw_rel
    decide
  have hr5 : ¬ rw_rel (Int32.toNatClampNeg 5) := by
    unfold rw_rel
    decide
  refine wq_X7_findsTurning h hD (fun u2 h2 l2 => ?_)
  obtain ⟨f1, f2, f3, f4, f5, f6⟩ := h2
  have er : u2.2.2.1 0 = s0.2.2.1 0 := by rw [f3]
  obtain ⟨nf, hf⟩ := fu_e 50
  refine ⟨nf, wq_X7_ticks_L6 (s := u2) hD (fun c hc => by rw [er]; exact f5 c hc) (fun t z ht => ?_) nf u2 0 ⟨f1, ie_refl _ _, rfl, fun _ _ _ => rfl, Int.le_refl _, fun hx => ?_⟩ (by omega) (by omega)⟩
  · obtain ⟨t1, t2, t3, t4, t5, t6⟩ := ht
    have ti : (t.1 1).toInt = (u2.1 1).toInt := ie_i t2 1 (by decide)
    have j : ie [1, 2] t.1 s0.1 := ie_tr t2 (by decide) f2
    rw [er] at t5 t6
    refine ⟨fun c => ?_, fun c => k _ _ t1 j (by omega) ⟨t5, Or.inl (by omega)⟩⟩
    have c2 := q_neq c
    have lt : mu_n (t.2.2.1 0) 40 < mu_n (s0.2.2.1 0) 40 := by
      obtain ⟨c, hc⟩ := f6 (by omega)
      exact t6 ⟨c, (f5 c hc).1, hc⟩
    generalize (Int32.toInt64 (Int64.toInt32 (((t.2.2.1 0) (Int32.toNatClampNeg 4)) + (Int32.toInt64 ((t.1 1) * (t.1 1)))))) = v1
    generalize hv2 : (((vp_updL (t.2.2.1 0) (Int32.toNatClampNeg 4) v1) (Int32.toNatClampNeg 5)) + 1) = v2
    have same : ∀ i, rw_rel i → vp_updL (vp_updL (t.2.2.1 0) (Int32.toNatClampNeg 4) v1) (Int32.toNatClampNeg 5) v2 i = t.2.2.1 0 i := fun i hi => by
      have n5 : ¬ i = Int32.toNatClampNeg 5 := fun e => hr5 (by rw [← e]; exact hi)
      have n4 : ¬ i = Int32.toNatClampNeg 4 := fun e => hr4 (by rw [← e]; exact hi)
      rw [ul_ne n5, ul_ne n4]
    have me := mu_eq t1.2.2.2.2.1 same 40 (by omega)
    refine k _ _ (mb_now t1 rfl (fun k hk => ?_) rfl (rw_congr t1.2.2.2.2.1 same)) j (by omega) ⟨?_, Or.inr ?_⟩
    · show (if k = 0 then _ else t.2.2.1 k) = _
      rw [if_neg hk]
    · show mu_n (vp_updL (vp_updL (t.2.2.1 0) (Int32.toNatClampNeg 4) v1) (Int32.toNatClampNeg 5) v2) 40 ≤ _
      rw [me]
      exact t5
    · show mu_n (vp_updL (vp_updL (t.2.2.1 0) (Int32.toNatClampNeg 4) v1) (Int32.toNatClampNeg 5) v2) 40 < _
      rw [me]
      exact lt
  · obtain ⟨c, hc, _⟩ := hx
    omega
/-! Rows copied. -/
theorem wq_X7_keepsAct_L53 {post : Md → Prop} {e87 : Md → Int32 → Prop} {s : Md} (hs : 0 ≤ (s.1 0).toInt ∧ (s.1 0).toInt ≤ 9) (ke : ∀ (t : Md) (z1 : Int32), t.1 = s.1 → t.2.1 = s.2.1 → t.2.2.2 = s.2.2.2 → (∀ j, ¬ j = 1 → t.2.2.1 j = s.2.2.1 j) → (∀ i : Nat, i < 6896 → t.2.2.1 1 (6896 * (s.1 0).toInt.toNat + i) = s.2.2.1 0 (0 + i)) → (∀ i : Nat, ¬ (6896 * (s.1 0).toInt.toNat ≤ i ∧ i < 6896 * (s.1 0).toInt.toNat + 6896) → t.2.2.1 1 i = s.2.2.1 1 i) → e87 t z1) : ∀ (n : Nat) (t : Md) (z1 : Int32), t.1 = s.1 → t.2.1 = s.2.1 → t.2.2.2 = s.2.2.2 → (∀ j, ¬ j = 1 → t.2.2.1 j = s.2.2.1 j) → (∀ i : Nat, (i : Int) < z1.toInt → t.2.2.1 1 (6896 * (s.1 0).toInt.toNat + i) = s.2.2.1 0 (0 + i)) → (∀ i : Nat, ¬ (6896 * (s.1 0).toInt.toNat ≤ i ∧ i < 6896 * (s.1 0).toInt.toNat + 6896) → t.2.2.1 1 i = s.2.2.1 1 i) → 0 ≤ z1.toInt ∧ z1.toInt ≤ 6896 → 6896 - z1.toInt < (n : Int) → wp_X7_keepsAct_L53 post e87 n t z1 := by
  have e1 : (1 : Int32).toInt = 1 := rfl
  have eR : (6896 : Int32).toInt = 6896 := rfl
  intro n
  induction n with
  | zero =>
    intro t z1 _ _ _ _ _ _ _ _
    exfalso
    omega
  | succ n ih =>
    intro t z1 a1 a2 a3 a4 a5 a6 i2 i3
    unfold wp_X7_keepsAct_L53
    refine ⟨fun c => ke t z1 a1 a2 a3 a4 (fun i hi => a5 i (by have := q_le c; omega)) a6, fun c => ?_⟩
    have c2 := q_nle c
    have s1 := nw (tq_addr e1 z1) (by omega)
    have t0 : (t.1 0).toInt = (s.1 0).toInt := by rw [a1]
    have m1 := nw (tq_mulc eR (t.1 0)) (by omega)
    have m2 := nw (tq_add (6896 * (t.1 0)) z1) (by omega)
    have ix : Int32.toNatClampNeg ((6896 * (t.1 0)) + z1) = 6896 * (s.1 0).toInt.toNat + z1.toInt.toNat := by
      rw [tn_i]
      omega
    have iz : Int32.toNatClampNeg z1 = 0 + z1.toInt.toNat := by
      rw [tn_i]
      omega
    refine ⟨vi (by omega) (by omega), vi (by omega) (by omega), ih _ _ a1 a2 a3 (fun j hj => ?_) (fun i hi => ?_) (fun i hi => ?_) (by omega) (by omega)⟩
    · show (if j = 1 then _ else t.2.2.1 j) = _
      rw [if_neg hj]
      exact a4 j hj
    · show vp_updL (t.2.2.1 1) (Int32.toNatClampNeg ((6896 * (t.1 0)) + z1)) ((t.2.2.1 0) (Int32.toNatClampNeg z1)) (6896 * (s.1 0).toInt.toNat + i) = _
      rw [ix, iz, a4 0 (by decide)]
      by_cases e : i = z1.toInt.toNat
      · subst e
        rw [ul_at]
      · rw [ul_ne (by omega)]
        exact a5 i (by omega)
    · show vp_updL (t.2.2.1 1) (Int32.toNatClampNeg ((6896 * (t.1 0)) + z1)) ((t.2.2.1 0) (Int32.toNatClampNeg z1)) i = _
      rw [ix, ul_ne (by omega)]
      exact a6 i hi
theorem wq_X7_undo_L21 {post : Int32 → Md → Prop} {e55 : Md → Int32 → Prop} {s : Md} (hs : 0 ≤ (s.1 0).toInt ∧ (s.1 0).toInt ≤ 9) (ke : ∀ (t : Md) (z1 : Int32), t.1 = s.1 → t.2.1 = s.2.1 → t.2.2.2 = s.2.2.2 → (∀ j, ¬ j = 0 → t.2.2.1 j = s.2.2.1 j) → (∀ i : Nat, i < 6896 → t.2.2.1 0 (0 + i) = s.2.2.1 1 (6896 * (s.1 0).toInt.toNat + i)) → (∀ i : Nat, ¬ (0 ≤ i ∧ i < 0 + 6896) → t.2.2.1 0 i = s.2.2.1 0 i) → e55 t z1) : ∀ (n : Nat) (t : Md) (z1 : Int32), t.1 = s.1 → t.2.1 = s.2.1 → t.2.2.2 = s.2.2.2 → (∀ j, ¬ j = 0 → t.2.2.1 j = s.2.2.1 j) → (∀ i : Nat, (i : Int) < z1.toInt → t.2.2.1 0 (0 + i) = s.2.2.1 1 (6896 * (s.1 0).toInt.toNat + i)) → (∀ i : Nat, ¬ (0 ≤ i ∧ i < 0 + 6896) → t.2.2.1 0 i = s.2.2.1 0 i) → 0 ≤ z1.toInt ∧ z1.toInt ≤ 6896 → 6896 - z1.toInt < (n : Int) → wp_X7_undo_L21 post e55 n t z1 := by
  have e1 : (1 : Int32).toInt = 1 := rfl
  have eR : (6896 : Int32).toInt = 6896 := rfl
  intro n
  induction n with
  | zero =>
    intro t z1 _ _ _ _ _ _ _ _
    exfalso
    omega
  | succ n ih =>
    intro t z1 a1 a2 a3 a4 a5 a6 i2 i3
    unfold wp_X7_undo_L21
    refine ⟨fun c => ke t z1 a1 a2 a3 a4 (fun i hi => a5 i (by have := q_le c; omega)) a6, fun c => ?_⟩
    have c2 := q_nle c
    have s1 := nw (tq_addr e1 z1) (by omega)
    have t0 : (t.1 0).toInt = (s.1 0).toInt := by rw [a1]
    have m1 := nw (tq_mulc eR (t.1 0)) (by omega)
    have m2 := nw (tq_add (6896 * (t.1 0)) z1) (by omega)
    have ix : Int32.toNatClampNeg ((6896 * (t.1 0)) + z1) = 6896 * (s.1 0).toInt.toNat + z1.toInt.toNat := by
      rw [tn_i]
      omega
    have iz : Int32.toNatClampNeg z1 = 0 + z1.toInt.toNat := by
      rw [tn_i]
      omega
    refine ⟨vi (by omega) (by omega), vi (by omega) (by omega), ih _ _ a1 a2 a3 (fun j hj => ?_) (fun i hi => ?_) (fun i hi => ?_) (by omega) (by omega)⟩
    · show (if j = 0 then _ else t.2.2.1 j) = _
      rw [if_neg hj]
      exact a4 j hj
    · show vp_updL (t.2.2.1 0) (Int32.toNatClampNeg z1) ((t.2.2.1 1) (Int32.toNatClampNeg ((6896 * (t.1 0)) + z1))) (0 + i) = _
      rw [iz, ix, a4 1 (by decide)]
      by_cases e : i = z1.toInt.toNat
      · subst e
        rw [ul_at]
      · rw [ul_ne (by omega)]
        exact a5 i (by omega)
    · show vp_updL (t.2.2.1 0) (Int32.toNatClampNeg z1) ((t.2.2.1 1) (Int32.toNatClampNeg ((6896 * (t.1 0)) + z1))) i = _
      rw [iz, ul_ne (by omega)]
      exact a6 i hi
theorem wq_X7_keep_L14 {post : Int32 → Md → Prop} {e45 : Md → Int32 → Int32 → Prop} {s : Md} {z1 : Int32} (hs : 0 ≤ z1.toInt ∧ z1.toInt ≤ 1) (ke : ∀ (t : Md) (z2 : Int32), t.1 = s.1 → t.2.1 = s.2.1 → t.2.2.2 = s.2.2.2 → (∀ j, ¬ j = 2 → t.2.2.1 j = s.2.2.1 j) → (∀ i : Nat, i < 6896 → t.2.2.1 2 (6896 * z1.toInt.toNat + i) = s.2.2.1 0 (0 + i)) → (∀ i : Nat, ¬ (6896 * z1.toInt.toNat ≤ i ∧ i < 6896 * z1.toInt.toNat + 6896) → t.2.2.1 2 i = s.2.2.1 2 i) → e45 t z1 z2) : ∀ (n : Nat) (t : Md) (z2 : Int32), t.1 = s.1 → t.2.1 = s.2.1 → t.2.2.2 = s.2.2.2 → (∀ j, ¬ j = 2 → t.2.2.1 j = s.2.2.1 j) → (∀ i : Nat, (i : Int) < z2.toInt → t.2.2.1 2 (6896 * z1.toInt.toNat + i) = s.2.2.1 0 (0 + i)) → (∀ i : Nat, ¬ (6896 * z1.toInt.toNat ≤ i ∧ i < 6896 * z1.toInt.toNat + 6896) → t.2.2.1 2 i = s.2.2.1 2 i) → 0 ≤ z2.toInt ∧ z2.toInt ≤ 6896 → 6896 - z2.toInt < (n : Int) → wp_X7_keep_L14 post e45 n t z1 z2 := by
  have e1 : (1 : Int32).toInt = 1 := rfl
  have eR : (6896 : Int32).toInt = 6896 := rfl
  intro n
  induction n with
  | zero =>
    intro t z2 _ _ _ _ _ _ _ _
    exfalso
    omega
  | succ n ih =>
    intro t z2 a1 a2 a3 a4 a5 a6 i2 i3
    unfold wp_X7_keep_L14
    refine ⟨fun c => ke t z2 a1 a2 a3 a4 (fun i hi => a5 i (by have := q_le c; omega)) a6, fun c => ?_⟩
    have c2 := q_nle c
    have s1 := nw (tq_addr e1 z2) (by omega)
    have m1 := nw (tq_mulc eR z1) (by omega)
    have m2 := nw (tq_add (6896 * z1) z2) (by omega)
    have ix : Int32.toNatClampNeg ((6896 * z1) + z2) = 6896 * z1.toInt.toNat + z2.toInt.toNat := by
      rw [tn_i]
      omega
    have iz : Int32.toNatClampNeg z2 = 0 + z2.toInt.toNat := by
      rw [tn_i]
      omega
    refine ⟨vi (by omega) (by omega), vi (by omega) (by omega), ih _ _ a1 a2 a3 (fun j hj => ?_) (fun i hi => ?_) (fun i hi => ?_) (by omega) (by omega)⟩
    · show (if j = 2 then _ else t.2.2.1 j) = _
      rw [if_neg hj]
      exact a4 j hj
    · show vp_updL (t.2.2.1 2) (Int32.toNatClampNeg ((6896 * z1) + z2)) ((t.2.2.1 0) (Int32.toNatClampNeg z2)) (6896 * z1.toInt.toNat + i) = _
      rw [ix, iz, a4 0 (by decide)]
      by_cases e : i = z2.toInt.toNat
      · subst e
        rw [ul_at]
      · rw [ul_ne (by omega)]
        exact a5 i (by omega)
    · show vp_updL (t.2.2.1 2) (Int32.toNatClampNeg ((6896 * z1) + z2)) ((t.2.2.1 0) (Int32.toNatClampNeg z2)) i = _
      rw [ix, ul_ne (by omega)]
      exact a6 i hi
theorem wq_X7_back_L26 {post : Int32 → Md → Prop} {e57 : Md → Int32 → Int32 → Prop} {s : Md} {z1 : Int32} (hs : 0 ≤ z1.toInt ∧ z1.toInt ≤ 1) (ke : ∀ (t : Md) (z2 : Int32), t.1 = s.1 → t.2.1 = s.2.1 → t.2.2.2 = s.2.2.2 → (∀ j, ¬ j = 0 → t.2.2.1 j = s.2.2.1 j) → (∀ i : Nat, i < 6896 → t.2.2.1 0 (0 + i) = s.2.2.1 2 (6896 * z1.toInt.toNat + i)) → (∀ i : Nat, ¬ (0 ≤ i ∧ i < 0 + 6896) → t.2.2.1 0 i = s.2.2.1 0 i) → e57 t z1 z2) : ∀ (n : Nat) (t : Md) (z2 : Int32), t.1 = s.1 → t.2.1 = s.2.1 → t.2.2.2 = s.2.2.2 → (∀ j, ¬ j = 0 → t.2.2.1 j = s.2.2.1 j) → (∀ i : Nat, (i : Int) < z2.toInt → t.2.2.1 0 (0 + i) = s.2.2.1 2 (6896 * z1.toInt.toNat + i)) → (∀ i : Nat, ¬ (0 ≤ i ∧ i < 0 + 6896) → t.2.2.1 0 i = s.2.2.1 0 i) → 0 ≤ z2.toInt ∧ z2.toInt ≤ 6896 → 6896 - z2.toInt < (n : Int) → wp_X7_back_L26 post e57 n t z1 z2 := by
  have e1 : (1 : Int32).toInt = 1 := rfl
  have eR : (6896 : Int32).toInt = 6896 := rfl
  intro n
  induction n with
  | zero =>
    intro t z2 _ _ _ _ _ _ _ _
    exfalso
    omega
  | succ n ih =>
    intro t z2 a1 a2 a3 a4 a5 a6 i2 i3
    unfold wp_X7_back_L26
    refine ⟨fun c => ke t z2 a1 a2 a3 a4 (fun i hi => a5 i (by have := q_le c; omega)) a6, fun c => ?_⟩
    have c2 := q_nle c
    have s1 := nw (tq_addr e1 z2) (by omega)
    have m1 := nw (tq_mulc eR z1) (by omega)
    have m2 := nw (tq_add (6896 * z1) z2) (by omega)
    have ix : Int32.toNatClampNeg ((6896 * z1) + z2) = 6896 * z1.toInt.toNat + z2.toInt.toNat := by
      rw [tn_i]
      omega
    have iz : Int32.toNatClampNeg z2 = 0 + z2.toInt.toNat := by
      rw [tn_i]
      omega
    refine ⟨vi (by omega) (by omega), vi (by omega) (by omega), ih _ _ a1 a2 a3 (fun j hj => ?_) (fun i hi => ?_) (fun i hi => ?_) (by omega) (by omega)⟩
    · show (if j = 0 then _ else t.2.2.1 j) = _
      rw [if_neg hj]
      exact a4 j hj
    · show vp_updL (t.2.2.1 0) (Int32.toNatClampNeg z2) ((t.2.2.1 2) (Int32.toNatClampNeg ((6896 * z1) + z2))) (0 + i) = _
      rw [iz, ix, a4 2 (by decide)]
      by_cases e : i = z2.toInt.toNat
      · subst e
        rw [ul_at]
      · rw [ul_ne (by omega)]
        exact a5 i (by omega)
    · show vp_updL (t.2.2.1 0) (Int32.toNatClampNeg z2) ((t.2.2.1 2) (Int32.toNatClampNeg ((6896 * z1) + z2))) i = _
      rw [iz, ul_ne (by omega)]
      exact a6 i hi
theorem wq_X7_putsAside_L2 {post : Md → Prop} {e27 : Md → Int32 → Prop} {s : Md} (ke : ∀ (t : Md) (z1 : Int32), t.1 = s.1 → t.2.1 = s.2.1 → t.2.2.2 = s.2.2.2 → (∀ j, ¬ j = 3 → t.2.2.1 j = s.2.2.1 j) → (∀ i : Nat, i < 6896 → t.2.2.1 3 (0 + i) = s.2.2.1 0 (0 + i)) → (∀ i : Nat, ¬ (0 ≤ i ∧ i < 0 + 6896) → t.2.2.1 3 i = s.2.2.1 3 i) → e27 t z1) : ∀ (n : Nat) (t : Md) (z1 : Int32), t.1 = s.1 → t.2.1 = s.2.1 → t.2.2.2 = s.2.2.2 → (∀ j, ¬ j = 3 → t.2.2.1 j = s.2.2.1 j) → (∀ i : Nat, (i : Int) < z1.toInt → t.2.2.1 3 (0 + i) = s.2.2.1 0 (0 + i)) → (∀ i : Nat, ¬ (0 ≤ i ∧ i < 0 + 6896) → t.2.2.1 3 i = s.2.2.1 3 i) → 0 ≤ z1.toInt ∧ z1.toInt ≤ 6896 → 6896 - z1.toInt < (n : Int) → wp_X7_putsAside_L2 post e27 n t z1 := by
  have e1 : (1 : Int32).toInt = 1 := rfl
  have eR : (6896 : Int32).toInt = 6896 := rfl
  intro n
  induction n with
  | zero =>
    intro t z1 _ _ _ _ _ _ _ _
    exfalso
    omega
  | succ n ih =>
    intro t z1 a1 a2 a3 a4 a5 a6 i2 i3
    unfold wp_X7_putsAside_L2
    refine ⟨fun c => ke t z1 a1 a2 a3 a4 (fun i hi => a5 i (by have := q_le c; omega)) a6, fun c => ?_⟩
    have c2 := q_nle c
    have s1 := nw (tq_addr e1 z1) (by omega)
    have iz : Int32.toNatClampNeg z1 = 0 + z1.toInt.toNat := by
      rw [tn_i]
      omega
    refine ⟨vi (by omega) (by omega), vi (by omega) (by omega), ih _ _ a1 a2 a3 (fun j hj => ?_) (fun i hi => ?_) (fun i hi => ?_) (by omega) (by omega)⟩
    · show (if j = 3 then _ else t.2.2.1 j) = _
      rw [if_neg hj]
      exact a4 j hj
    · show vp_updL (t.2.2.1 3) (Int32.toNatClampNeg z1) ((t.2.2.1 0) (Int32.toNatClampNeg z1)) (0 + i) = _
      rw [iz, a4 0 (by decide)]
      by_cases e : i = z1.toInt.toNat
      · subst e
        rw [ul_at]
      · rw [ul_ne (by omega)]
        exact a5 i (by omega)
    · show vp_updL (t.2.2.1 3) (Int32.toNatClampNeg z1) ((t.2.2.1 0) (Int32.toNatClampNeg z1)) i = _
      rw [iz, ul_ne (by omega)]
      exact a6 i hi
theorem wq_X7_takesBack_L2 {post : Md → Prop} {e27 : Md → Int32 → Prop} {s : Md} (ke : ∀ (t : Md) (z1 : Int32), t.1 = s.1 → t.2.1 = s.2.1 → t.2.2.2 = s.2.2.2 → (∀ j, ¬ j = 0 → t.2.2.1 j = s.2.2.1 j) → (∀ i : Nat, i < 6896 → t.2.2.1 0 (0 + i) = s.2.2.1 3 (0 + i)) → (∀ i : Nat, ¬ (0 ≤ i ∧ i < 0 + 6896) → t.2.2.1 0 i = s.2.2.1 0 i) → e27 t z1) : ∀ (n : Nat) (t : Md) (z1 : Int32), t.1 = s.1 → t.2.1 = s.2.1 → t.2.2.2 = s.2.2.2 → (∀ j, ¬ j = 0 → t.2.2.1 j = s.2.2.1 j) → (∀ i : Nat, (i : Int) < z1.toInt → t.2.2.1 0 (0 + i) = s.2.2.1 3 (0 + i)) → (∀ i : Nat, ¬ (0 ≤ i ∧ i < 0 + 6896) → t.2.2.1 0 i = s.2.2.1 0 i) → 0 ≤ z1.toInt ∧ z1.toInt ≤ 6896 → 6896 - z1.toInt < (n : Int) → wp_X7_takesBack_L2 post e27 n t z1 := by
  have e1 : (1 : Int32).toInt = 1 := rfl
  have eR : (6896 : Int32).toInt = 6896 := rfl
  intro n
  induction n with
  | zero =>
    intro t z1 _ _ _ _ _ _ _ _
    exfalso
    omega
  | succ n ih =>
    intro t z1 a1 a2 a3 a4 a5 a6 i2 i3
    unfold wp_X7_takesBack_L2
    refine ⟨fun c => ke t z1 a1 a2 a3 a4 (fun i hi => a5 i (by have := q_le c; omega)) a6, fun c => ?_⟩
    have c2 := q_nle c
    have s1 := nw (tq_addr e1 z1) (by omega)
    have iz : Int32.toNatClampNeg z1 = 0 + z1.toInt.toNat := by
      rw [tn_i]
      omega
    refine ⟨vi (by omega) (by omega), vi (by omega) (by omega), ih _ _ a1 a2 a3 (fun j hj => ?_) (fun i hi => ?_) (fun i hi => ?_) (by omega) (by omega)⟩
    · show (if j = 0 then _ else t.2.2.1 j) = _
      rw [if_neg hj]
      exact a4 j hj
    · show vp_updL (t.2.2.1 0) (Int32.toNatClampNeg z1) ((t.2.2.1 3) (Int32.toNatClampNeg z1)) (0 + i) = _
      rw [iz, a4 3 (by decide)]
      by_cases e : i = z1.toInt.toNat
      · subst e
        rw [ul_at]
      · rw [ul_ne (by omega)]
        exact a5 i (by omega)
    · show vp_updL (t.2.2.1 0) (Int32.toNatClampNeg z1) ((t.2.2.1 3) (Int32.toNatClampNeg z1)) i = _
      rw [iz, ul_ne (by omega)]
      exact a6 i hi

theorem rk_congr {f g : Nat → Int64} (h : rk f) (e : ∀ i, i < 6896 → g i = f i) : rk g := by
  obtain ⟨R, W, D, h1, h2⟩ := h
  refine ⟨R, W, D, rw_congr h1 (fun i hi => e i ?_), h2⟩
  unfold rw_rel at hi
  omega
theorem rk_now {N R W D : Int} {s : Md} (h : mb N R W D s) (hs : R ≤ 0 ∨ 0 < D) : rk (s.2.2.1 0) := ⟨R, W, D, h.2.2.2.2.1, hs⟩
theorem ka_1 {post : Md → Prop} {s : Md} {N R W D : Int} (h : mb N R W D s) (hs : R ≤ 0 ∨ 0 < D) (hu : (s.1 0).toInt ≤ 9) (k : ∀ u : Md, mb N R W D u → ie [0] u.1 s.1 → u.2.1 = s.2.1 ∧ u.2.2.2 = s.2.2.2 ∧ u.2.2.1 0 = s.2.2.1 0 → post u) : ∃ n53, wp_X7_keepsAct_L53 post (fun t0 z1 => post ((va_up t0.1 0 ((t0.1 0) + 1)), t0.2.1, t0.2.2.1, t0.2.2.2)) n53 s 0 := by
  have e0 : (0 : Int32).toInt = 0 := rfl
  have e1 : (1 : Int32).toInt = 1 := rfl
  obtain ⟨a0, a1, a2, a3, a4, a5, a6, a7⟩ := id h
  obtain ⟨nf, hf⟩ := fu_e 7000
  refine ⟨nf, wq_X7_keepsAct_L53 (s := s) (by omega) (fun t z b1 b2 b3 b4 b5 b6 => ?_) nf s 0 rfl rfl rfl (fun _ _ => rfl) (fun i hi => ?_) (fun _ _ => rfl) (by omega) (by omega)⟩
  · have t0 : t.1 0 = s.1 0 := by rw [b1]
    have s1 := nw (tq_addr e1 (t.1 0)) (by rw [t0]; omega)
    rw [t0] at s1
    have r0 : t.2.2.1 0 = s.2.2.1 0 := b4 0 (by decide)
    refine k _ ⟨?_, ?_, a2, a3, ?_, fun kk hk => ?_, fun kk hk hn => ?_, ?_⟩ ?_ ⟨b2, b3, r0⟩
    · show (t.1 5).toInt = N
      rw [b1]
      exact a0
    · show 0 ≤ (t.1 0 + 1).toInt ∧ (t.1 0 + 1).toInt ≤ 10
      rw [t0]
      omega
    · show rw_ok R W D (t.2.2.1 0)
      rw [r0]
      exact a4
    · have hk2 : (kk : Int) < (t.1 0 + 1).toInt := hk
      rw [t0] at hk2
      show rk (fun i => t.2.2.1 1 (6896 * kk + i))
      by_cases e : kk = (s.1 0).toInt.toNat
      · subst e
        refine rk_congr (rk_now h hs) (fun i hi => ?_)
        rw [b5 i hi, Nat.zero_add]
      · refine rk_congr (a5 kk (by omega)) (fun i hi => ?_)
        rw [b6 _ (by omega)]
    · show rk (fun i => t.2.2.1 2 (6896 * kk + i))
      have hn2 : ¬ t.2.2.2 0 kk = 0 := hn
      rw [b4 2 (by decide)]
      rw [b3] at hn2
      exact a6 kk hk hn2
    · show rk (t.2.2.1 3)
      rw [b4 3 (by decide)]
      exact a7
    · intro j hj
      show (if j = 0 then _ else t.1 j) = _
      rw [if_neg (fun e => hj (by rw [e]; decide)), b1]
  · omega
theorem wq_X7_keepsAct_L13 {post : Md → Prop} {e41 : Md → Int32 → Prop} {s : Md} (ke : ∀ (t : Md) (z : Int32), t.1 = s.1 → t.2.1 = s.2.1 → t.2.2.2 = s.2.2.2 → (∀ j, ¬ j = 1 → t.2.2.1 j = s.2.2.1 j) → (∀ i : Nat, i < 62064 → t.2.2.1 1 i = s.2.2.1 1 (i + 6896)) → e41 t z) : ∀ (n : Nat) (t : Md) (z1 : Int32), t.1 = s.1 → t.2.1 = s.2.1 → t.2.2.2 = s.2.2.2 → (∀ j, ¬ j = 1 → t.2.2.1 j = s.2.2.1 j) → (∀ i : Nat, (i : Int) + 6896 < z1.toInt → t.2.2.1 1 i = s.2.2.1 1 (i + 6896)) → (∀ i : Nat, z1.toInt ≤ (i : Int) + 6896 → t.2.2.1 1 i = s.2.2.1 1 i) → 6896 ≤ z1.toInt ∧ z1.toInt ≤ 68960 → 68960 - z1.toInt < (n : Int) → wp_X7_keepsAct_L13 post e41 n t z1 := by
  have e1 : (1 : Int32).toInt = 1 := rfl
  have eR : (6896 : Int32).toInt = 6896 := rfl
  have eT : (68960 : Int32).toInt = 68960 := rfl
  intro n
  induction n with
  | zero =>
    intro t z1 _ _ _ _ _ _ _ _
    exfalso
    omega
  | succ n ih =>
    intro t z1 a1 a2 a3 a4 a5 a6 i2 i3
    unfold wp_X7_keepsAct_L13
    refine ⟨fun c => ke t z1 a1 a2 a3 a4 (fun i hi => a5 i (by have := q_le c; omega)), fun c => ?_⟩
    have c2 := q_nle c
    have s1 := nw (tq_addr e1 z1) (by omega)
    have m1 := nw (tq_subr eR z1) (by omega)
    have ix : Int32.toNatClampNeg (z1 - 6896) = z1.toInt.toNat - 6896 := by
      rw [tn_i]
      omega
    have iz : Int32.toNatClampNeg z1 = z1.toInt.toNat := tn_i z1
    refine ⟨vi (by omega) (by omega), vi (by omega) (by omega), ih _ _ a1 a2 a3 (fun j hj => ?_) (fun i hi => ?_) (fun i hi => ?_) (by omega) (by omega)⟩
    · show (if j = 1 then _ else t.2.2.1 j) = _
      rw [if_neg hj]
      exact a4 j hj
    · show vp_updL (t.2.2.1 1) (Int32.toNatClampNeg (z1 - 6896)) ((t.2.2.1 1) (Int32.toNatClampNeg z1)) i = _
      rw [ix, iz]
      by_cases e : i = z1.toInt.toNat - 6896
      · have e2 : z1.toInt.toNat - 6896 + 6896 = z1.toInt.toNat := by omega
        rw [e, ul_at, e2]
        exact a6 _ (by omega)
      · rw [ul_ne e]
        exact a5 i (by omega)
    · show vp_updL (t.2.2.1 1) (Int32.toNatClampNeg (z1 - 6896)) ((t.2.2.1 1) (Int32.toNatClampNeg z1)) i = _
      rw [ix, ul_ne (by omega)]
      exact a6 i (by omega)
theorem wq_X7_keepsAct {post : Md → Prop} {s0 : Md} {N R W D : Int} (h : mb N R W D s0) (hs : R ≤ 0 ∨ 0 < D) (k : ∀ u : Md, mb N R W D u → ie [0] u.1 s0.1 → u.2.1 = s0.2.1 ∧ u.2.2.2 = s0.2.2.2 ∧ u.2.2.1 0 = s0.2.2.1 0 → post u) : wp_X7_keepsAct post s0 := by
  unfold wp_X7_keepsAct
  have e10 : (10 : Int32).toInt = 10 := rfl
  have e1 : (1 : Int32).toInt = 1 := rfl
  have eR : (6896 : Int32).toInt = 6896 := rfl
  obtain ⟨a0, a1, a2, a3, a4, a5, a6, a7⟩ := id h
  refine ⟨fun c => ka_1 h hs (by have := q_neq c; omega) k, fun c => ?_⟩
  have c2 := q_eq c
  obtain ⟨nf, hf⟩ := fu_e 70000
  refine ⟨nf, wq_X7_keepsAct_L13 (s := s0) (fun t z b1 b2 b3 b4 b5 => ?_) nf s0 6896 rfl rfl rfl (fun _ _ => rfl) (fun i hi => ?_) (fun _ _ => rfl) (by omega) (by omega)⟩
  · have t0 : t.1 0 = s0.1 0 := by rw [b1]
    have s1 := nw (tq_subr e1 (t.1 0)) (by rw [t0]; omega)
    rw [t0] at s1
    have r0 : t.2.2.1 0 = s0.2.2.1 0 := b4 0 (by decide)
    have hm : mb N R W D ((va_up t.1 0 ((t.1 0) - 1)), t.2.1, t.2.2.1, t.2.2.2) := by
      refine ⟨?_, ?_, a2, a3, ?_, fun kk hk => ?_, fun kk hk hn => ?_, ?_⟩
      · show (t.1 5).toInt = N
        rw [b1]
        exact a0
      · show 0 ≤ (t.1 0 - 1).toInt ∧ (t.1 0 - 1).toInt ≤ 10
        rw [t0]
        omega
      · show rw_ok R W D (t.2.2.1 0)
        rw [r0]
        exact a4
      · have hk2 : (kk : Int) < (t.1 0 - 1).toInt := hk
        rw [t0] at hk2
        show rk (fun i => t.2.2.1 1 (6896 * kk + i))
        refine rk_congr (a5 (kk + 1) (by omega)) (fun i hi => ?_)
        have e3 : 6896 * kk + i + 6896 = 6896 * (kk + 1) + i := by omega
        rw [b5 _ (by omega), e3]
      · show rk (fun i => t.2.2.1 2 (6896 * kk + i))
        have hn2 : ¬ t.2.2.2 0 kk = 0 := hn
        rw [b4 2 (by decide)]
        rw [b3] at hn2
        exact a6 kk hk hn2
      · show rk (t.2.2.1 3)
        rw [b4 3 (by decide)]
        exact a7
    refine ka_1 hm hs ?_ (fun u hu ju xu => k u hu (ie_tr ju (by decide) (ie_up (by rw [b1]; exact ie_refl _ _) (by decide))) ⟨xu.1.trans b2, xu.2.1.trans b3, xu.2.2.trans r0⟩)
    show (t.1 0 - 1).toInt ≤ 9
    rw [t0]
    omega
  · omega
theorem wq_X7_undo {post : Int32 → Md → Prop} {s0 : Md} {N R W D : Int} (h : mb N R W D s0) (hs : R ≤ 0 ∨ 0 < D) (k : ∀ (r : Int32) (u : Md) (R4 W4 D4 : Int), mb N R4 W4 D4 u → R4 ≤ 0 ∨ 0 < D4 → post r u) : wp_X7_undo post s0 := by
  unfold wp_X7_undo
  have e0 : (0 : Int32).toInt = 0 := rfl
  have e1 : (1 : Int32).toInt = 1 := rfl
  obtain ⟨a0, a1, a2, a3, a4, a5, a6, a7⟩ := id h
  refine ⟨fun c => ?_, fun c => k _ _ _ _ _ h hs⟩
  have c2 := q_neq c
  have s1 := nw (tq_subr e1 (s0.1 0)) (by omega)
  obtain ⟨nf, hf⟩ := fu_e 7000
  have v0 : (((va_up s0.1 0 ((s0.1 0) - 1)), s0.2.1, s0.2.2.1, s0.2.2.2) : Md).1 0 = s0.1 0 - 1 := rfl
  refine ⟨nf, wq_X7_undo_L21 (s := ((va_up s0.1 0 ((s0.1 0) - 1)), s0.2.1, s0.2.2.1, s0.2.2.2)) (by rw [v0]; omega) (fun t z b1 b2 b3 b4 b5 b6 => ?_) nf _ 0 rfl rfl rfl (fun _ _ => rfl) (fun i hi => ?_) (fun _ _ => rfl) (by omega) (by omega)⟩
  · rw [v0] at b5
    obtain ⟨R4, W4, D4, g1, g2⟩ := a5 (s0.1 0 - 1).toInt.toNat (by omega)
    have t0 : t.1 0 = s0.1 0 - 1 := by rw [b1]; rfl
    have rr : rw_ok R4 W4 D4 (t.2.2.1 0) := rw_congr g1 (fun i hi => by
      have li : i < 6896 := by unfold rw_rel at hi; omega
      have := b5 i li
      rw [Nat.zero_add] at this
      exact this)
    refine k _ _ R4 W4 D4 ⟨?_, ?_, a2, rr.2.2.2.2.2.1, rr, fun kk hk => ?_, fun kk hk hn => ?_, ?_⟩ g2
    · rw [b1]
      exact a0
    · rw [t0]
      omega
    · rw [t0] at hk
      rw [b4 1 (by decide)]
      exact a5 kk (by omega)
    · rw [b4 2 (by decide)]
      rw [b3] at hn
      exact a6 kk hk hn
    · rw [b4 3 (by decide)]
      exact a7
  · omega
theorem wq_X7_putsAside {post : Md → Prop} {s0 : Md} {N R W D : Int} (h : mb N R W D s0) (hs : R ≤ 0 ∨ 0 < D) (k : ∀ u : Md, mb N R W D u → ie [] u.1 s0.1 → u.2.1 = s0.2.1 ∧ u.2.2.2 = s0.2.2.2 ∧ u.2.2.1 0 = s0.2.2.1 0 ∧ (∀ i, i < 6896 → u.2.2.1 3 i = s0.2.2.1 0 i) → post u) : wp_X7_putsAside post s0 := by
  unfold wp_X7_putsAside
  have e0 : (0 : Int32).toInt = 0 := rfl
  obtain ⟨a0, a1, a2, a3, a4, a5, a6, a7⟩ := id h
  obtain ⟨nf, hf⟩ := fu_e 7000
  refine ⟨nf, wq_X7_putsAside_L2 (s := s0) (fun t z b1 b2 b3 b4 b5 b6 => ?_) nf s0 0 rfl rfl rfl (fun _ _ => rfl) (fun i hi => ?_) (fun _ _ => rfl) (by omega) (by omega)⟩
  · have b5' : ∀ i, i < 6896 → t.2.2.1 3 i = s0.2.2.1 0 i := fun i hi => by
      have := b5 i hi
      rw [Nat.zero_add] at this
      exact this
    refine k _ ⟨by rw [b1]; exact a0, by rw [b1]; exact a1, a2, a3, by rw [b4 0 (by decide)]; exact a4, fun kk hk => ?_, fun kk hk hn => ?_, ?_⟩ (by rw [b1]; exact ie_refl _ _) ⟨b2, b3, b4 0 (by decide), b5'⟩
    · rw [b1] at hk
      rw [b4 1 (by decide)]
      exact a5 kk hk
    · rw [b4 2 (by decide)]
      rw [b3] at hn
      exact a6 kk hk hn
    · exact rk_congr (rk_now h hs) b5'
  · omega
theorem wq_X7_takesBack {post : Md → Prop} {s0 : Md} {N R W D : Int} (h : mb N R W D s0) (k : ∀ (u : Md) (R4 W4 D4 : Int), mb N R4 W4 D4 u → R4 ≤ 0 ∨ 0 < D4 → ie [] u.1 s0.1 → post u) : wp_X7_takesBack post s0 := by
  unfold wp_X7_takesBack
  have e0 : (0 : Int32).toInt = 0 := rfl
  obtain ⟨a0, a1, a2, a3, a4, a5, a6, a7⟩ := id h
  obtain ⟨nf, hf⟩ := fu_e 7000
  refine ⟨nf, wq_X7_takesBack_L2 (s := s0) (fun t z b1 b2 b3 b4 b5 b6 => ?_) nf s0 0 rfl rfl rfl (fun _ _ => rfl) (fun i hi => ?_) (fun _ _ => rfl) (by omega) (by omega)⟩
  · obtain ⟨R4, W4, D4, g1, g2⟩ := a7
    have rr : rw_ok R4 W4 D4 (t.2.2.1 0) := rw_congr g1 (fun i hi => by
      have li : i < 6896 := by unfold rw_rel at hi; omega
      have := b5 i li
      rw [Nat.zero_add] at this
      exact this)
    refine k _ R4 W4 D4 ⟨by rw [b1]; exact a0, by rw [b1]; exact a1, a2, rr.2.2.2.2.2.1, rr, fun kk hk => ?_, fun kk hk hn => ?_, ?_⟩ g2 (by rw [b1]; exact ie_refl _ _)
    · rw [b1] at hk
      rw [b4 1 (by decide)]
      exact a5 kk hk
    · rw [b4 2 (by decide)]
      rw [b3] at hn
      exact a6 kk hk hn
    · rw [b4 3 (by decide)]
      exact ⟨R4, W4, D4, g1, g2⟩
  · omega
theorem wq_X7_keep {post : Int32 → Md → Prop} {s0 : Md} {x1 : Int32} {N R W D : Int} (h : mb N R W D s0) (hs : R ≤ 0 ∨ 0 < D) (k : ∀ (r : Int32) (u : Md), mb N R W D u → post r u) : wp_X7_keep post s0 x1 := by
  unfold wp_X7_keep
  have e0 : (0 : Int32).toInt = 0 := rfl
  have l0 : (0 : Int64).toInt = 0 := rfl
  have l1 : (1 : Int64).toInt = 1 := rfl
  have x64 := tq_64 x1
  obtain ⟨a0, a1, a2, a3, a4, a5, a6, a7⟩ := id h
  refine wq_X7_in (fun r1 b => ⟨fun c => ?_, fun c => k _ _ h⟩)
  have c2 := q_neq c
  have hx : 0 ≤ x1.toInt ∧ x1.toInt ≤ 1 := by omega
  obtain ⟨nf, hf⟩ := fu_e 7000
  refine ⟨nf, wq_X7_keep_L14 (s := s0) hx (fun t z b1 b2 b3 b4 b5 b6 => ?_) nf s0 0 rfl rfl rfl (fun _ _ => rfl) (fun i hi => ?_) (fun _ _ => rfl) (by omega) (by omega)⟩
  · refine ⟨vi (by omega) (by omega), ?_⟩
    have hm : mb N R W D (t.1, t.2.1, t.2.2.1, (va_up t.2.2.2 0 (upd (t.2.2.2 0) (Int32.toNatClampNeg x1) (vp_nar .boolean 1)))) := by
      refine ⟨?_, ?_, a2, a3, ?_, fun kk hk => ?_, fun kk hk hn => ?_, ?_⟩
      · show (t.1 5).toInt = N
        rw [b1]
        exact a0
      · show 0 ≤ (t.1 0).toInt ∧ (t.1 0).toInt ≤ 10
        rw [b1]
        exact a1
      · show rw_ok R W D (t.2.2.1 0)
        rw [b4 0 (by decide)]
        exact a4
      · have hk2 : (kk : Int) < (t.1 0).toInt := hk
        rw [b1] at hk2
        show rk (fun i => t.2.2.1 1 (6896 * kk + i))
        rw [b4 1 (by decide)]
        exact a5 kk hk2
      · show rk (fun i => t.2.2.1 2 (6896 * kk + i))
        have ti := tn_i x1
        by_cases e : kk = x1.toInt.toNat
        · subst e
          refine rk_congr (rk_now h hs) (fun i hi => ?_)
          rw [b5 i hi, Nat.zero_add]
        · have hn2 : ¬ (if kk = Int32.toNatClampNeg x1 then (vp_nar .boolean 1) else t.2.2.2 0 kk) = 0 := hn
          rw [if_neg (by omega), b3] at hn2
          refine rk_congr (a6 kk hk hn2) (fun i hi => ?_)
          rw [b6 _ (by omega)]
      · show rk (t.2.2.1 3)
        rw [b4 3 (by decide)]
        exact a7
    exact wq_X7_cells hm (fun r8 _ => k _ _ hm)
  · omega
theorem wq_X7_back {post : Int32 → Md → Prop} {s0 : Md} {x1 : Int32} {N R W D : Int} (h : mb N R W D s0) (hs : R ≤ 0 ∨ 0 < D) (k : ∀ (r : Int32) (u : Md) (R4 W4 D4 : Int), mb N R4 W4 D4 u → R4 ≤ 0 ∨ 0 < D4 → post r u) : wp_X7_back post s0 x1 := by
  unfold wp_X7_back
  have e0 : (0 : Int32).toInt = 0 := rfl
  have l0 : (0 : Int64).toInt = 0 := rfl
  have l1 : (1 : Int64).toInt = 1 := rfl
  have x64 := tq_64 x1
  obtain ⟨a0, a1, a2, a3, a4, a5, a6, a7⟩ := id h
  refine wq_X7_in (fun r1 b => ⟨fun c => ?_, fun c => k _ _ _ _ _ h hs⟩)
  have c2 := q_neq c
  have hx : 0 ≤ x1.toInt ∧ x1.toInt ≤ 1 := by omega
  refine ⟨vi (by omega) (by omega), fun g => ?_, fun g => k _ _ _ _ _ h hs⟩
  obtain ⟨nf, hf⟩ := fu_e 7000
  refine ⟨nf, wq_X7_back_L26 (s := s0) hx (fun t z b1 b2 b3 b4 b5 b6 => ?_) nf s0 0 rfl rfl rfl (fun _ _ => rfl) (fun i hi => ?_) (fun _ _ => rfl) (by omega) (by omega)⟩
  · have ti := tn_i x1
    rw [ti] at g
    obtain ⟨R4, W4, D4, g1, g2⟩ := a6 x1.toInt.toNat (by omega) g
    have rr : rw_ok R4 W4 D4 (t.2.2.1 0) := rw_congr g1 (fun i hi => by
      have li : i < 6896 := by unfold rw_rel at hi; omega
      have := b5 i li
      rw [Nat.zero_add] at this
      exact this)
    have hm : mb N R4 W4 D4 ((va_up t.1 0 0), t.2.1, t.2.2.1, t.2.2.2) := by
      refine ⟨?_, ?_, a2, rr.2.2.2.2.2.1, rr, fun kk hk => ?_, fun kk hk hn => ?_, ?_⟩
      · show (t.1 5).toInt = N
        rw [b1]
        exact a0
      · show 0 ≤ (0 : Int32).toInt ∧ (0 : Int32).toInt ≤ 10
        omega
      · have hk2 : (kk : Int) < (0 : Int32).toInt := hk
        omega
      · show rk (fun i => t.2.2.1 2 (6896 * kk + i))
        have hn2 : ¬ t.2.2.2 0 kk = 0 := hn
        rw [b4 2 (by decide)]
        rw [b3] at hn2
        exact a6 kk hk hn2
      · show rk (t.2.2.1 3)
        rw [b4 3 (by decide)]
        exact a7
    exact wq_X7_cells hm (fun r8 _ => k _ _ _ _ _ hm g2)
  · omega
theorem wq_X7_settles_L2 {post : Int32 → Md → Prop} {e15 : Md → Int32 → Prop} {N R W D : Int} {A : Nat → Int32} (hD : 0 < D) (ke : ∀ (t : Md) (z : Int32), mb N R W D t → ie [1, 2] t.1 A → e15 t z) : ∀ (n : Nat) (t : Md) (z1 : Int32), mb N R W D t → ie [1, 2] t.1 A → mu_n (t.2.2.1 0) 40 < (n : Int) → wp_X7_settles_L2 post e15 n t z1 := by
  have e0 : (0 : Int32).toInt = 0 := rfl
  intro n
  induction n with
  | zero =>
    intro t z1 h _ hm
    have := mu_b h.2.2.2.2.1 hD 40 (by omega)
    exfalso
    omega
  | succ n ih =>
    intro t z1 h j hm
    unfold wp_X7_settles_L2
    refine wq_X7_ticks h hD (fun r u hu ju b1 b2 => ⟨fun c => ke _ _ hu (ie_tr ju (by decide) j), fun c => ?_⟩)
    have c2 := q_nle c
    exact ih _ _ hu (ie_tr ju (by decide) j) (by omega)
theorem wq_X7_settles {post : Int32 → Md → Prop} {s0 : Md} {N R W D : Int} (h : mb N R W D s0) (hD : 0 < D) (k : ∀ (r : Int32) (u : Md), mb N R W D u → ie [1, 2] u.1 s0.1 → post r u) : wp_X7_settles post s0 := by
  unfold wp_X7_settles
  have m := mu_b h.2.2.2.2.1 hD 40 (by omega)
  obtain ⟨nf, hf⟩ := fu_e 5000
  exact ⟨nf, wq_X7_settles_L2 hD (fun t z a b => k _ _ a b) nf s0 0 h (ie_refl _ _) (by omega)⟩
theorem wq_X7_when_L32 {post : Int32 → Md → Prop} {e72 : Md → Int32 → Int32 → Int32 → Int32 → Prop} {N R W D : Int} (hD : 0 < D) (ke : ∀ (t : Md) (z1 z2 z3 z4 : Int32), mb N R W D t → e72 t z1 z2 z3 z4) : ∀ (n : Nat) (t : Md) (z1 z2 z3 z4 : Int32), mb N R W D t → mu_n (t.2.2.1 0) 40 < (n : Int) → wp_X7_when_L32 post e72 n t z1 z2 z3 z4 := by
  have e0 : (0 : Int32).toInt = 0 := rfl
  intro n
  induction n with
  | zero =>
    intro t z1 z2 z3 z4 h hm
    have := mu_b h.2.2.2.2.1 hD 40 (by omega)
    exfalso
    omega
  | succ n ih =>
    intro t z1 z2 z3 z4 h hm
    unfold wp_X7_when_L32
    refine wq_X7_ticks h hD (fun r u hu ju b1 b2 => ⟨fun c => ke _ _ _ _ _ hu, fun c => ?_⟩)
    have c2 := q_nle c
    exact ⟨fun _ => ih _ _ _ _ _ hu (by omega), fun _ => ih _ _ _ _ _ hu (by omega)⟩
theorem wq_X7_findsTurningB {post : Md → Prop} {s0 : Md} {N R W D : Int} (h : mb N R W D s0) (hD : 0 < D) (k : ∀ u : Md, mb N R W D u → ie [1, 2] u.1 s0.1 → 0 ≤ (u.1 1).toInt ∧ (u.1 1).toInt ≤ 40 → post u) : wp_X7_findsTurning post s0 := wq_X7_findsTurning h hD (fun u a b => k u a.1 a.2.1 ⟨a.2.2.2.1, b⟩)
theorem wq_X7_findsTurningZ {post : Md → Prop} {s0 : Md} {N R W D : Int} (h : mb N R W D s0) (hs : R ≤ 0 ∨ 0 < D) (k : ∀ u : Md, mb N R W D u → ie [1, 2] u.1 s0.1 → post u) : wp_X7_findsTurning post s0 := by
  by_cases hD : 0 < D
  · exact wq_X7_findsTurning h hD (fun u a b => k u a.1 a.2.1)
  · unfold wp_X7_findsTurning
    have pd := h.2.2.2.1
    have e0 : (0 : Int32).toInt = 0 := rfl
    have hm : mb N R W D ((va_up (va_up s0.1 1 0) 2 0), 0, s0.2.2.1, s0.2.2.2) := mb_i h rfl rfl rfl
    refine ⟨1, ?_⟩
    unfold wp_X7_findsTurning_L19
    refine wq_X7_cells hm (fun r a => ⟨fun _ => k _ hm (ie_up (ie_up (ie_refl _ _) (by decide)) (by decide)), fun c => ?_⟩)
    have := q_nle c
    exfalso
    omega
theorem n64_l {s : Md} {N R W D : Int} (h : mb N R W D s) (hD : 0 < D) : ¬ (s.2.2.1 0) (Int32.toNatClampNeg 2) = 0 := fun e => by
  have e2 : (s.2.2.1 0) 2 = 0 := e
  have q := h.2.2.2.2.1.2.2.2.1
  rw [e2] at q
  have l : (0 : Int64).toInt = 0 := rfl
  omega
theorem rw_dk {R W D : Int} {f : Nat → Int64} {x : Int32} (hf : rw_ok R W D f) (hx : 0 ≤ x.toInt ∧ x.toInt < D) : 2 ≤ d_f f x.toInt.toNat ∧ d_f f x.toInt.toNat ≤ 40 := hf.2.2.2.2.2.2.1 _ (by omega)
theorem wq_X7_of_w {post : Int32 → Prop} {s0 : Md} {x1 x2 : Int32} {N R W D : Int} (h : mb N R W D s0) (hx : 0 ≤ x1.toInt ∧ x1.toInt < 40) (hD : 0 < D) (hw : 1 ≤ x2.toInt ∧ x2.toInt ≤ 3) (k : ∀ r : Int32, 0 ≤ r.toInt ∧ r.toInt ≤ 39 → post r) : wp_X7_of post s0 x1 x2 := by
  have f : ∀ n : Int32, x2.toInt = n.toInt → x2 = n := fun n e => Int32.toInt_inj.mp e
  have l1 : (1 : Int32).toInt = 1 := rfl
  have l2 : (2 : Int32).toInt = 2 := rfl
  have l3 : (3 : Int32).toInt = 3 := rfl
  by_cases g1 : x2.toInt = 1
  · rw [f 1 (by omega)]
    exact wq_X7_of_1 h hx (fun r a b => k r ⟨b.1, b.2.1⟩)
  by_cases g2 : x2.toInt = 2
  · rw [f 2 (by omega)]
    exact wq_X7_of_2 h hx (fun r a b => k r ⟨b.1, b.2.1⟩)
  · rw [f 3 (by omega)]
    exact wq_X7_of_3 h hx (fun r a b => k r ⟨b.1, b.2.1⟩)

theorem wq_X7_flapFor_L5 {s0 : Md} {post : Int32 → Prop} {e95 : Int32 → Int32 → Int32 → Int32 → Prop} {N R W D F : Int} (h100076 : mb (N) (R) (W) (D) s0) (h100077 : 0 < D) (ke95 : ∀ (z1 : Int32) (z2 : Int32) (z3 : Int32) (z4 : Int32), 0 ≤ (z1).toInt ∧ (z1).toInt < 40 → fl_c ((s0.2.2.1 0)) z1 = F → 0 ≤ (z4).toInt ∧ (z4).toInt ≤ F ∧ F ≤ 40 → (z3).toInt = -1 ∨ (0 ≤ (z3).toInt ∧ (z3).toInt < F) → e95 z1 z2 z3 z4) : ∀ (n : Nat) (z1 : Int32) (z2 : Int32) (z3 : Int32) (z4 : Int32), 0 ≤ (z1).toInt ∧ (z1).toInt < 40 → fl_c ((s0.2.2.1 0)) z1 = F → 0 ≤ (z4).toInt ∧ (z4).toInt ≤ F ∧ F ≤ 40 → (z3).toInt = -1 ∨ (0 ≤ (z3).toInt ∧ (z3).toInt < F) → 40 - (z4).toInt < (n : Int) → wp_X7_flapFor_L5 s0 post e95 n z1 z2 z3 z4 := by
  have := h100076.1
  have := h100076.2.1
  have := h100076.2.2.1
  have := h100076.2.2.2.1
  intro n
  induction n with
  | zero =>
    intro z1 z2 z3 z4 i100078 i100079 i100080 i100081 i100082
    exfalso
    omega
  | succ n ih =>
    intro z1 z2 z3 z4 i100078 i100079 i100080 i100081 i100082
    unfold wp_X7_flapFor_L5
    have p100083 : 0 ≤ (z1).toInt ∧ (z1).toInt < 40 := by omega
    refine wq_X7_flaps h100076 p100083 (fun r_1 q100084 => ?_)
    refine ⟨fun c100085 => ?_, fun c100086 => ?_⟩
    · replace c100085 := q_le c100085
      have p100087 : 0 ≤ (z1).toInt ∧ (z1).toInt < 40 := by omega
      try have := rw_k h100076.2.2.2.2.1 (show 0 ≤ (z1).toInt ∧ (z1).toInt < 40 by omega)
      have p100088 : fl_c ((s0.2.2.1 0)) z1 = F := by omega
      have p100089 : 0 ≤ (z4).toInt ∧ (z4).toInt ≤ F ∧ F ≤ 40 := by omega
      have p100090 : (z3).toInt = -1 ∨ (0 ≤ (z3).toInt ∧ (z3).toInt < F) := by omega
      exact ke95 _ _ _ _ p100087 p100088 p100089 p100090
    · replace c100086 := q_nle c100086
      have p100091 : 0 ≤ (z1).toInt ∧ (z1).toInt < 40 := by omega
      refine wq_X7_of_0 h100076 p100091 (fun r_4 q100092 q100093 => ?_)
      have p100094 : 0 ≤ (r_4).toInt ∧ (r_4).toInt < 4 := by omega
      have p100095 : 0 ≤ (z4).toInt ∧ (z4).toInt < 40 := by omega
      refine wq_X7_signOf p100094 p100095 (fun r_6 => ?_)
      refine ⟨fun c100096 => ?_, fun c100097 => ?_⟩
      · replace c100096 := q_neq c100096
        have p100098 : 0 ≤ (z1).toInt ∧ (z1).toInt < 40 := by omega
        try have := rw_k h100076.2.2.2.2.1 (show 0 ≤ (z1).toInt ∧ (z1).toInt < 40 by omega)
        have p100099 : fl_c ((s0.2.2.1 0)) z1 = F := by omega
        have e100100 := tq_addr li_1 z4
        try rw [Int.emod_eq_of_lt (show 0 ≤ (z4).toInt + 1 + 2147483648 by omega) (show (z4).toInt + 1 + 2147483648 < 4294967296 by omega)] at e100100
        have p100101 : 0 ≤ (z4 + 1).toInt ∧ (z4 + 1).toInt ≤ F ∧ F ≤ 40 := by omega
        have p100102 : (z3).toInt = -1 ∨ (0 ≤ (z3).toInt ∧ (z3).toInt < F) := by omega
        have p100103 : 40 - (z4 + 1).toInt < ((n : Nat) : Int) := by (omega)
        exact ih _ _ _ _ p100098 p100099 p100101 p100102 p100103
      · replace c100097 := q_eq c100097
        have p100104 : 0 ≤ (z1).toInt ∧ (z1).toInt < 40 := by omega
        refine wq_X7_wornOf p100104 (fun r_9 => ?_)
        refine wq_X7_isIn (fun r_11 q100105 => ?_)
        refine ⟨fun c100106 => ?_, fun c100107 => ?_⟩
        · replace c100106 := q_eq c100106
          rw [li_0] at c100106
          refine ⟨fun c100108 => ?_, fun c100109 => ?_⟩
          · replace c100108 := q_eq c100108
            rw [li_m1] at c100108
            have p100110 : 0 ≤ (z1).toInt ∧ (z1).toInt < 40 := by omega
            try have := rw_k h100076.2.2.2.2.1 (show 0 ≤ (z1).toInt ∧ (z1).toInt < 40 by omega)
            have p100111 : fl_c ((s0.2.2.1 0)) z1 = F := by omega
            have e100112 := tq_addr li_1 z4
            try rw [Int.emod_eq_of_lt (show 0 ≤ (z4).toInt + 1 + 2147483648 by omega) (show (z4).toInt + 1 + 2147483648 < 4294967296 by omega)] at e100112
            have p100113 : 0 ≤ (z4 + 1).toInt ∧ (z4 + 1).toInt ≤ F ∧ F ≤ 40 := by omega
            have p100114 : (z4).toInt = -1 ∨ (0 ≤ (z4).toInt ∧ (z4).toInt < F) := by omega
            have p100115 : 40 - (z4 + 1).toInt < ((n : Nat) : Int) := by (omega)
            exact ih _ _ _ _ p100110 p100111 p100113 p100114 p100115
          · replace c100109 := q_neq c100109
            rw [li_m1] at c100109
            have p100116 : 0 ≤ (z1).toInt ∧ (z1).toInt < 40 := by omega
            refine wq_X7_of_2 h100076 p100116 (fun r_15 q100117 q100118 => ?_)
            have p100119 : 0 ≤ (z1).toInt ∧ (z1).toInt < 40 := by omega
            refine wq_X7_flaps h100076 p100119 (fun r_17 q100120 => ?_)
            have p100121 : 1 ≤ (r_17).toInt ∧ (r_17).toInt ≤ 40 := by omega
            have p100122 : 0 ≤ (r_15).toInt ∧ (r_15).toInt < (r_17).toInt := by omega
            have p100123 : 0 ≤ (z4).toInt ∧ (z4).toInt < (r_17).toInt := by omega
            refine wq_X7_on p100121 p100122 p100123 (fun r_19 q100124 => ?_)
            have p100125 : 0 ≤ (z1).toInt ∧ (z1).toInt < 40 := by omega
            refine wq_X7_of_2 h100076 p100125 (fun r_21 q100126 q100127 => ?_)
            have p100128 : 0 ≤ (z1).toInt ∧ (z1).toInt < 40 := by omega
            refine wq_X7_flaps h100076 p100128 (fun r_23 q100129 => ?_)
            have p100130 : 1 ≤ (r_23).toInt ∧ (r_23).toInt ≤ 40 := by omega
            have p100131 : 0 ≤ (r_21).toInt ∧ (r_21).toInt < (r_23).toInt := by omega
            have p100132 : 0 ≤ (z3).toInt ∧ (z3).toInt < (r_23).toInt := by omega
            refine wq_X7_on p100130 p100131 p100132 (fun r_25 q100133 => ?_)
            refine ⟨fun c100134 => ?_, fun c100135 => ?_⟩
            · replace c100134 := q_le c100134
              have p100136 : 0 ≤ (z1).toInt ∧ (z1).toInt < 40 := by omega
              try have := rw_k h100076.2.2.2.2.1 (show 0 ≤ (z1).toInt ∧ (z1).toInt < 40 by omega)
              have p100137 : fl_c ((s0.2.2.1 0)) z1 = F := by omega
              have e100138 := tq_addr li_1 z4
              try rw [Int.emod_eq_of_lt (show 0 ≤ (z4).toInt + 1 + 2147483648 by omega) (show (z4).toInt + 1 + 2147483648 < 4294967296 by omega)] at e100138
              have p100139 : 0 ≤ (z4 + 1).toInt ∧ (z4 + 1).toInt ≤ F ∧ F ≤ 40 := by omega
              have p100140 : (z3).toInt = -1 ∨ (0 ≤ (z3).toInt ∧ (z3).toInt < F) := by omega
              have p100141 : 40 - (z4 + 1).toInt < ((n : Nat) : Int) := by (omega)
              exact ih _ _ _ _ p100136 p100137 p100139 p100140 p100141
            · replace c100135 := q_nle c100135
              have p100142 : 0 ≤ (z1).toInt ∧ (z1).toInt < 40 := by omega
              try have := rw_k h100076.2.2.2.2.1 (show 0 ≤ (z1).toInt ∧ (z1).toInt < 40 by omega)
              have p100143 : fl_c ((s0.2.2.1 0)) z1 = F := by omega
              have e100144 := tq_addr li_1 z4
              try rw [Int.emod_eq_of_lt (show 0 ≤ (z4).toInt + 1 + 2147483648 by omega) (show (z4).toInt + 1 + 2147483648 < 4294967296 by omega)] at e100144
              have p100145 : 0 ≤ (z4 + 1).toInt ∧ (z4 + 1).toInt ≤ F ∧ F ≤ 40 := by omega
              have p100146 : (z4).toInt = -1 ∨ (0 ≤ (z4).toInt ∧ (z4).toInt < F) := by omega
              have p100147 : 40 - (z4 + 1).toInt < ((n : Nat) : Int) := by (omega)
              exact ih _ _ _ _ p100142 p100143 p100145 p100146 p100147
        · replace c100107 := q_neq c100107
          rw [li_0] at c100107
          have p100148 : 0 ≤ (z1).toInt ∧ (z1).toInt < 40 := by omega
          try have := rw_k h100076.2.2.2.2.1 (show 0 ≤ (z1).toInt ∧ (z1).toInt < 40 by omega)
          have p100149 : fl_c ((s0.2.2.1 0)) z1 = F := by omega
          have e100150 := tq_addr li_1 z4
          try rw [Int.emod_eq_of_lt (show 0 ≤ (z4).toInt + 1 + 2147483648 by omega) (show (z4).toInt + 1 + 2147483648 < 4294967296 by omega)] at e100150
          have p100151 : 0 ≤ (z4 + 1).toInt ∧ (z4 + 1).toInt ≤ F ∧ F ≤ 40 := by omega
          have p100152 : (z3).toInt = -1 ∨ (0 ≤ (z3).toInt ∧ (z3).toInt < F) := by omega
          have p100153 : 40 - (z4 + 1).toInt < ((n : Nat) : Int) := by (omega)
          exact ih _ _ _ _ p100148 p100149 p100151 p100152 p100153
theorem wq_X7_flapFor {post : Int32 → Prop} {s0 : Md} {x1 : Int32} {x2 : Int32} {N R W D : Int} (h100154 : mb (N) (R) (W) (D) s0) (h100155 : 0 ≤ (x1).toInt ∧ (x1).toInt < 40) (h100156 : 0 < D) (k : ∀ (r : Int32), -1 ≤ (r).toInt ∧ (r).toInt ≤ 39 ∧ ((r).toInt = -1 ∨ (r).toInt < fl_c ((s0.2.2.1 0)) x1) → post r) : wp_X7_flapFor post s0 x1 x2 := by
  unfold wp_X7_flapFor
  have := h100154.1
  have := h100154.2.1
  have := h100154.2.2.1
  have := h100154.2.2.2.1
  have p100157 : 0 < D := by omega
  have p100158 : 0 ≤ (x1).toInt ∧ (x1).toInt < 40 := by omega
  try have := rw_k h100154.2.2.2.2.1 (show 0 ≤ (x1).toInt ∧ (x1).toInt < 40 by omega)
  have p100159 : fl_c ((s0.2.2.1 0)) x1 = (fl_c ((s0.2.2.1 0)) x1) := by omega
  have p100160 : 0 ≤ (0 : Int32).toInt ∧ (0 : Int32).toInt ≤ (fl_c ((s0.2.2.1 0)) x1) ∧ (fl_c ((s0.2.2.1 0)) x1) ≤ 40 := by (have := li_0; omega)
  have p100161 : (-1 : Int32).toInt = -1 ∨ (0 ≤ (-1 : Int32).toInt ∧ (-1 : Int32).toInt < (fl_c ((s0.2.2.1 0)) x1)) := by (have := li_m1; omega)
  obtain ⟨f100162, g100163⟩ := fu_e 50
  have p100164 : 40 - (0 : Int32).toInt < (f100162 : Int) := by (have := li_0; omega)
  refine ⟨f100162, wq_X7_flapFor_L5 h100154 p100157 (fun z1 z2 z3 z4 q100165 q100166 q100167 q100168 => ?_) f100162 _ _ _ _ p100158 p100159 p100160 p100161 p100164⟩
  have p100169 : -1 ≤ (z3).toInt ∧ (z3).toInt ≤ 39 ∧ ((z3).toInt = -1 ∨ (z3).toInt < fl_c ((s0.2.2.1 0)) x1) := by omega
  exact k _ p100169
theorem wq_X7_wantsFlap {post : Md → Prop} {s0 : Md} {x1 : Int32} {x2 : Int32} {x3 : Int32} {N R W D : Int} (h100170 : mb (N) (R) (W) (D) s0) (h100171 : 0 ≤ (x1).toInt ∧ (x1).toInt < 40) (h100172 : 0 < D) (h100173 : 0 ≤ (x2).toInt ∧ (x2).toInt ≤ 39 ∧ (x2).toInt < fl_c ((s0.2.2.1 0)) x1) (k : ∀ (u : Md), mb (N) (R) (W) (D) u → ie [] u.1 s0.1 → post u) : wp_X7_wantsFlap post s0 x1 x2 x3 := by
  unfold wp_X7_wantsFlap
  have := h100170.1
  have := h100170.2.1
  have := h100170.2.2.1
  have := h100170.2.2.2.1
  have p100174 : 0 ≤ (x1).toInt ∧ (x1).toInt < 40 := by omega
  have := tq_64 x2
  try have := rw_k h100170.2.2.2.2.1 (show 0 ≤ (x1).toInt ∧ (x1).toInt < 40 by omega)
  have p100175 : 0 ≤ (Int32.toInt64 x2).toInt ∧ ((D ≤ 0 ∧ (Int32.toInt64 x2).toInt = 0) ∨ (0 < D ∧ (Int32.toInt64 x2).toInt < fl_c ((s0.2.2.1 0)) x1)) := by omega
  refine wq_X7_sets_3 h100170 p100174 p100175 (fun u_2 q100176 q100177 q100178 => ?_)
  have := q100176.1
  have := q100176.2.1
  refine ⟨fun c100179 => ?_, fun c100180 => ?_⟩
  · replace c100179 := q_eq c100179
    rw [li_0] at c100179
    have p100181 : ie [] u_2.1 s0.1 := (ie_tr q100177 (by decide) (ie_refl _ _))
    exact k _ q100176 p100181
  · replace c100180 := q_neq c100180
    rw [li_0] at c100180
    have p100182 : 0 ≤ (x1).toInt ∧ (x1).toInt < 40 := by omega
    refine wq_X7_of_2 q100176 p100182 (fun r_4 q100183 q100184 => ?_)
    refine ⟨fun c100185 => ?_, fun c100186 => ?_⟩
    · replace c100185 := q_eq c100185
      have p100187 : ie [] u_2.1 s0.1 := (ie_tr q100177 (by decide) (ie_refl _ _))
      exact k _ q100176 p100187
    · replace c100186 := q_neq c100186
      have p100188 : 0 ≤ (x1).toInt ∧ (x1).toInt < 40 := by omega
      refine wq_X7_of_0 q100176 p100188 (fun r_7 q100189 q100190 => ?_)
      have p100191 : 0 ≤ (x1).toInt ∧ (x1).toInt < 40 := by omega
      refine wq_X7_of_2 q100176 p100191 (fun r_9 q100192 q100193 => ?_)
      have e100194 := tq_mulc li_40 r_7
      try rw [Int.emod_eq_of_lt (show 0 ≤ 40 * (r_7).toInt + 2147483648 by omega) (show 40 * (r_7).toInt + 2147483648 < 4294967296 by omega)] at e100194
      have e100195 := tq_add (40 * r_7) r_9
      try rw [Int.emod_eq_of_lt (show 0 ≤ (40 * r_7).toInt + (r_9).toInt + 2147483648 by omega) (show (40 * r_7).toInt + (r_9).toInt + 2147483648 < 4294967296 by omega)] at e100195
      have e100196 := tq_mulc li_40 ((40 * r_7) + r_9)
      try rw [Int.emod_eq_of_lt (show 0 ≤ 40 * ((40 * r_7) + r_9).toInt + 2147483648 by omega) (show 40 * ((40 * r_7) + r_9).toInt + 2147483648 < 4294967296 by omega)] at e100196
      have e100197 := tq_addc li_496 (40 * ((40 * r_7) + r_9))
      try rw [Int.emod_eq_of_lt (show 0 ≤ 496 + (40 * ((40 * r_7) + r_9)).toInt + 2147483648 by omega) (show 496 + (40 * ((40 * r_7) + r_9)).toInt + 2147483648 < 4294967296 by omega)] at e100197
      have e100198 := tq_add (496 + (40 * ((40 * r_7) + r_9))) x2
      try rw [Int.emod_eq_of_lt (show 0 ≤ (496 + (40 * ((40 * r_7) + r_9))).toInt + (x2).toInt + 2147483648 by omega) (show (496 + (40 * ((40 * r_7) + r_9))).toInt + (x2).toInt + 2147483648 < 4294967296 by omega)] at e100198
      have v100199 : vp_in ((496 + (40 * ((40 * r_7) + r_9))) + x2) 6896 := vi (by omega) (by omega)
      refine ⟨v100199, ?_⟩
      refine ⟨v100199, ?_⟩
      have : (u_2.1 5).toInt = (s0.1 5).toInt := ie_i q100177 5 (by decide)
      have p100200 : (u_2.1 5).toInt = N := by omega
      have : (u_2.1 0).toInt = (s0.1 0).toInt := ie_i q100177 0 (by decide)
      have p100201 : 0 ≤ (u_2.1 0).toInt ∧ (u_2.1 0).toInt ≤ 10 := by omega
      have p100202 : 0 ≤ N ∧ N ≤ 400 := by omega
      have p100203 : 0 ≤ R ∧ R ≤ 6 ∧ 0 ≤ W ∧ W ≤ 10 ∧ 0 ≤ R * W ∧ R * W ≤ 40 ∧ 0 ≤ D ∧ D ≤ 4 ∧ (D ≤ 0 ∨ 1 ≤ R) ∧ (1 ≤ R ∨ R * W = 0) := by omega
      have B100204 : mb (N) (R) (W) (D) (u_2.1, u_2.2.1, (va_up u_2.2.2.1 0 (vp_updL (u_2.2.2.1 0) (Int32.toNatClampNeg ((496 + (40 * ((40 * r_7) + r_9))) + x2)) ((u_2.2.2.1 0 (Int32.toNatClampNeg ((496 + (40 * ((40 * r_7) + r_9))) + x2))) + 1))), u_2.2.2.2) := ⟨p100200, p100201, p100202, p100203, (rw_irr q100176.2.2.2.2.1 (by rw [tn_i]; unfold rw_rel; omega)), q100176.2.2.2.2.2.1, q100176.2.2.2.2.2.2.1, q100176.2.2.2.2.2.2.2⟩
      have p100205 : ie [] u_2.1 s0.1 := (ie_tr q100177 (by decide) (ie_refl _ _))
      exact k _ B100204 p100205
theorem wq_X7_wantsSigns_L6 {post : Int32 → Md → Prop} {e81 : Md → Int32 → Int32 → Int32 → Int32 → Int32 → Int32 → Prop} {D N R W : Int} {A : Nat → Int32} (h100206 : 0 < D) (ke81 : ∀ (t0 : Md) (z1 : Int32) (z2 : Int32) (z3 : Int32) (z4 : Int32) (z5 : Int32) (z6 : Int32), mb (N) (R) (W) (D) t0 → ie [] t0.1 A → 0 ≤ (z1).toInt ∧ (z1).toInt < R → 0 ≤ (z6).toInt ∧ (z6).toInt ≤ W → 0 ≤ (z2).toInt ∧ 0 ≤ (z3).toInt ∧ (z2).toInt + (z3).toInt ≤ 400 → e81 t0 z1 z2 z3 z4 z5 z6) : ∀ (n : Nat) (t0 : Md) (z1 : Int32) (z2 : Int32) (z3 : Int32) (z4 : Int32) (z5 : Int32) (z6 : Int32), mb (N) (R) (W) (D) t0 → ie [] t0.1 A → 0 ≤ (z1).toInt ∧ (z1).toInt < R → 0 ≤ (z6).toInt ∧ (z6).toInt ≤ W → 0 ≤ (z2).toInt ∧ 0 ≤ (z3).toInt ∧ (z2).toInt + (z3).toInt ≤ 400 → W - (z6).toInt < (n : Int) → wp_X7_wantsSigns_L6 post e81 n t0 z1 z2 z3 z4 z5 z6 := by
  intro n
  induction n with
  | zero =>
    intro t0 z1 z2 z3 z4 z5 z6 i100207 i100208 i100209 i100210 i100211 i100212
    have := i100207.1
    have := i100207.2.1
    have := i100207.2.2.1
    have := i100207.2.2.2.1
    exfalso
    omega
  | succ n ih =>
    intro t0 z1 z2 z3 z4 z5 z6 i100207 i100208 i100209 i100210 i100211 i100212
    unfold wp_X7_wantsSigns_L6
    have := i100207.1
    have := i100207.2.1
    have := i100207.2.2.1
    have := i100207.2.2.2.1
    refine wq_X7_wide i100207 (fun r_1 q100213 => ?_)
    refine ⟨fun c100214 => ?_, fun c100215 => ?_⟩
    · replace c100214 := q_le c100214
      have p100216 : ie [] t0.1 A := (ie_tr i100208 (by decide) (ie_refl _ _))
      have p100217 : 0 ≤ (z1).toInt ∧ (z1).toInt < R := by omega
      have p100218 : 0 ≤ (z6).toInt ∧ (z6).toInt ≤ W := by omega
      have p100219 : 0 ≤ (z2).toInt ∧ 0 ≤ (z3).toInt ∧ (z2).toInt + (z3).toInt ≤ 400 := by omega
      exact ke81 _ _ _ _ _ _ _ i100207 p100216 p100217 p100218 p100219
    · replace c100215 := q_nle c100215
      refine wq_X7_wide i100207 (fun r_4 q100220 => ?_)
      refine ⟨fun c100221 => ?_, fun c100222 => ?_⟩
      · replace c100221 := q_le c100221
        have := rw_r (a := z1) (b := r_4) (R := R) (W := W) (by omega) (by omega) (by omega)
        have e100223 := tq_add (r_4 * z1) z6
        try rw [Int.emod_eq_of_lt (show 0 ≤ (r_4 * z1).toInt + (z6).toInt + 2147483648 by omega) (show (r_4 * z1).toInt + (z6).toInt + 2147483648 < 4294967296 by omega)] at e100223
        have p100224 : 0 ≤ ((r_4 * z1) + z6).toInt ∧ ((r_4 * z1) + z6).toInt < 40 := by omega
        have p100225 : 0 < D := by omega
        try have := rw_k i100207.2.2.2.2.1 (show 0 ≤ (((r_4 * z1) + z6)).toInt ∧ (((r_4 * z1) + z6)).toInt < 40 by omega)
        have p100226 : 0 ≤ ((0 : Int32)).toInt ∧ ((0 : Int32)).toInt ≤ 39 ∧ ((0 : Int32)).toInt < fl_c ((t0.2.2.1 0)) ((r_4 * z1) + z6) := by (have := li_0; omega)
        refine wq_X7_wantsFlap i100207 p100224 p100225 p100226 (fun u_8 q100227 q100228 => ?_)
        have := q100227.1
        have := q100227.2.1
        have p100229 : ie [] u_8.1 A := (ie_tr q100228 (by decide) (ie_tr i100208 (by decide) (ie_refl _ _)))
        have p100230 : 0 ≤ (z1).toInt ∧ (z1).toInt < R := by omega
        have e100231 := tq_addr li_1 z6
        try rw [Int.emod_eq_of_lt (show 0 ≤ (z6).toInt + 1 + 2147483648 by omega) (show (z6).toInt + 1 + 2147483648 < 4294967296 by omega)] at e100231
        have p100232 : 0 ≤ (z6 + 1).toInt ∧ (z6 + 1).toInt ≤ W := by omega
        have p100233 : 0 ≤ (z2).toInt ∧ 0 ≤ (z3).toInt ∧ (z2).toInt + (z3).toInt ≤ 400 := by omega
        have p100234 : W - (z6 + 1).toInt < ((n : Nat) : Int) := by (omega)
        exact ih _ _ _ _ _ _ _ q100227 p100229 p100230 p100232 p100233 p100234
      · replace c100222 := q_nle c100222
        have e100235 := tq_add z2 z6
        try rw [Int.emod_eq_of_lt (show 0 ≤ (z2).toInt + (z6).toInt + 2147483648 by omega) (show (z2).toInt + (z6).toInt + 2147483648 < 4294967296 by omega)] at e100235
        have v100236 : vp_in (z2 + z6) 400 := vi (by omega) (by omega)
        refine ⟨v100236, ?_⟩
        have := rw_r (a := z1) (b := r_4) (R := R) (W := W) (by omega) (by omega) (by omega)
        have e100237 := tq_add (r_4 * z1) z6
        try rw [Int.emod_eq_of_lt (show 0 ≤ (r_4 * z1).toInt + (z6).toInt + 2147483648 by omega) (show (r_4 * z1).toInt + (z6).toInt + 2147483648 < 4294967296 by omega)] at e100237
        have p100238 : 0 ≤ ((r_4 * z1) + z6).toInt ∧ ((r_4 * z1) + z6).toInt < 40 := by omega
        have p100239 : 0 < D := by omega
        refine wq_X7_flapFor i100207 p100238 p100239 (fun r_10 q100240 => ?_)
        refine ⟨fun c100241 => ?_, fun c100242 => ?_⟩
        · replace c100241 := q_neq c100241
          rw [li_m1] at c100241
          have p100243 : 0 ≤ ((r_4 * z1) + z6).toInt ∧ ((r_4 * z1) + z6).toInt < 40 := by omega
          have p100244 : 0 < D := by omega
          try have := rw_k i100207.2.2.2.2.1 (show 0 ≤ (((r_4 * z1) + z6)).toInt ∧ (((r_4 * z1) + z6)).toInt < 40 by omega)
          have p100245 : 0 ≤ (r_10).toInt ∧ (r_10).toInt ≤ 39 ∧ (r_10).toInt < fl_c ((t0.2.2.1 0)) ((r_4 * z1) + z6) := by omega
          refine wq_X7_wantsFlap i100207 p100243 p100244 p100245 (fun u_14 q100246 q100247 => ?_)
          have := q100246.1
          have := q100246.2.1
          have p100248 : ie [] u_14.1 A := (ie_tr q100247 (by decide) (ie_tr i100208 (by decide) (ie_refl _ _)))
          have p100249 : 0 ≤ (z1).toInt ∧ (z1).toInt < R := by omega
          have e100250 := tq_addr li_1 z6
          try rw [Int.emod_eq_of_lt (show 0 ≤ (z6).toInt + 1 + 2147483648 by omega) (show (z6).toInt + 1 + 2147483648 < 4294967296 by omega)] at e100250
          have p100251 : 0 ≤ (z6 + 1).toInt ∧ (z6 + 1).toInt ≤ W := by omega
          have p100252 : 0 ≤ (z2).toInt ∧ 0 ≤ (z3).toInt ∧ (z2).toInt + (z3).toInt ≤ 400 := by omega
          have p100253 : W - (z6 + 1).toInt < ((n : Nat) : Int) := by (omega)
          exact ih _ _ _ _ _ _ _ q100246 p100248 p100249 p100251 p100252 p100253
        · replace c100242 := q_eq c100242
          rw [li_m1] at c100242
          have p100254 : ie [] t0.1 A := (ie_tr i100208 (by decide) (ie_refl _ _))
          have p100255 : 0 ≤ (z1).toInt ∧ (z1).toInt < R := by omega
          have e100256 := tq_addr li_1 z6
          try rw [Int.emod_eq_of_lt (show 0 ≤ (z6).toInt + 1 + 2147483648 by omega) (show (z6).toInt + 1 + 2147483648 < 4294967296 by omega)] at e100256
          have p100257 : 0 ≤ (z6 + 1).toInt ∧ (z6 + 1).toInt ≤ W := by omega
          have p100258 : 0 ≤ (z2).toInt ∧ 0 ≤ (z3).toInt ∧ (z2).toInt + (z3).toInt ≤ 400 := by omega
          have p100259 : W - (z6 + 1).toInt < ((n : Nat) : Int) := by (omega)
          exact ih _ _ _ _ _ _ _ i100207 p100254 p100255 p100257 p100258 p100259
theorem wq_X7_wantsSigns {post : Int32 → Md → Prop} {s0 : Md} {x1 : Int32} {x2 : Int32} {x3 : Int32} {x4 : Int32} {N R W D : Int} (h100260 : mb (N) (R) (W) (D) s0) (h100261 : 0 < D) (h100262 : 0 ≤ (x1).toInt ∧ (x1).toInt < R) (h100263 : 0 ≤ (x2).toInt ∧ 0 ≤ (x3).toInt ∧ (x2).toInt + (x3).toInt ≤ 400) (k : ∀ (r : Int32) (u : Md), mb (N) (R) (W) (D) u → ie [] u.1 s0.1 → post r u) : wp_X7_wantsSigns post s0 x1 x2 x3 x4 := by
  unfold wp_X7_wantsSigns
  have := h100260.1
  have := h100260.2.1
  have := h100260.2.2.1
  have := h100260.2.2.2.1
  have p100264 : 0 < D := by omega
  have p100265 : ie [] s0.1 s0.1 := (ie_refl _ _)
  have p100266 : 0 ≤ (x1).toInt ∧ (x1).toInt < R := by omega
  have p100267 : 0 ≤ (0 : Int32).toInt ∧ (0 : Int32).toInt ≤ W := by (have := li_0; omega)
  have p100268 : 0 ≤ (x2).toInt ∧ 0 ≤ (x3).toInt ∧ (x2).toInt + (x3).toInt ≤ 400 := by omega
  obtain ⟨f100269, g100270⟩ := fu_e 50
  have p100271 : W - (0 : Int32).toInt < (f100269 : Int) := by (have := li_0; omega)
  refine ⟨f100269, wq_X7_wantsSigns_L6 p100264 (fun t0 z1 z2 z3 z4 z5 z6 q100272 q100273 q100274 q100275 q100276 => ?_) f100269 _ _ _ _ _ _ _ h100260 p100265 p100266 p100267 p100268 p100271⟩
  have := q100272.1
  have := q100272.2.1
  have p100277 : ie [] t0.1 s0.1 := (ie_tr q100273 (by decide) (ie_refl _ _))
  exact k _ _ q100272 p100277
theorem wq_X7_scrolls_L5 {post : Int32 → Md → Prop} {e45 : Md → Int32 → Int32 → Int32 → Int32 → Prop} {D N R W : Int} {A : Nat → Int32} (h100278 : 0 < D) (ke45 : ∀ (t0 : Md) (z1 : Int32) (z2 : Int32) (z3 : Int32) (z4 : Int32), mb (N) (R) (W) (D) t0 → ie [] t0.1 A → 0 ≤ (z4).toInt ∧ (z4).toInt ≤ R * W → 0 ≤ (z1).toInt ∧ 0 ≤ (z2).toInt ∧ (z1).toInt + (z2).toInt ≤ 400 → e45 t0 z1 z2 z3 z4) : ∀ (n : Nat) (t0 : Md) (z1 : Int32) (z2 : Int32) (z3 : Int32) (z4 : Int32), mb (N) (R) (W) (D) t0 → ie [] t0.1 A → 0 ≤ (z4).toInt ∧ (z4).toInt ≤ R * W → 0 ≤ (z1).toInt ∧ 0 ≤ (z2).toInt ∧ (z1).toInt + (z2).toInt ≤ 400 → R * W - (z4).toInt < (n : Int) → wp_X7_scrolls_L5 post e45 n t0 z1 z2 z3 z4 := by
  intro n
  induction n with
  | zero =>
    intro t0 z1 z2 z3 z4 i100279 i100280 i100281 i100282 i100283
    have := i100279.1
    have := i100279.2.1
    have := i100279.2.2.1
    have := i100279.2.2.2.1
    exfalso
    omega
  | succ n ih =>
    intro t0 z1 z2 z3 z4 i100279 i100280 i100281 i100282 i100283
    unfold wp_X7_scrolls_L5
    have := i100279.1
    have := i100279.2.1
    have := i100279.2.2.1
    have := i100279.2.2.2.1
    refine wq_X7_cells i100279 (fun r_1 q100284 => ?_)
    refine ⟨fun c100285 => ?_, fun c100286 => ?_⟩
    · replace c100285 := q_le c100285
      have p100287 : ie [] t0.1 A := (ie_tr i100280 (by decide) (ie_refl _ _))
      have p100288 : 0 ≤ (z4).toInt ∧ (z4).toInt ≤ R * W := by omega
      have p100289 : 0 ≤ (z1).toInt ∧ 0 ≤ (z2).toInt ∧ (z1).toInt + (z2).toInt ≤ 400 := by omega
      exact ke45 _ _ _ _ _ i100279 p100287 p100288 p100289
    · replace c100286 := q_nle c100286
      have p100290 : 0 ≤ (z4).toInt ∧ (z4).toInt < 40 := by omega
      refine wq_X7_of_0 i100279 p100290 (fun r_4 q100291 q100292 => ?_)
      have p100293 : 0 ≤ (z4).toInt ∧ (z4).toInt < 40 := by omega
      refine wq_X7_of_3 i100279 p100293 (fun r_6 q100294 q100295 => ?_)
      have p100296 : 0 ≤ (r_4).toInt ∧ (r_4).toInt < 4 := by omega
      have p100297 : 0 ≤ (r_6).toInt ∧ (r_6).toInt < 40 := by omega
      refine wq_X7_signOf p100296 p100297 (fun r_8 => ?_)
      have v100298 : vp_in z4 40 := vi (by omega) (by omega)
      refine ⟨v100298, ?_⟩
      have : (t0.1 5).toInt = (A 5).toInt := ie_i i100280 5 (by decide)
      have p100299 : (t0.1 5).toInt = N := by omega
      have : (t0.1 0).toInt = (A 0).toInt := ie_i i100280 0 (by decide)
      have p100300 : 0 ≤ (t0.1 0).toInt ∧ (t0.1 0).toInt ≤ 10 := by omega
      have p100301 : 0 ≤ N ∧ N ≤ 400 := by omega
      have p100302 : 0 ≤ R ∧ R ≤ 6 ∧ 0 ≤ W ∧ W ≤ 10 ∧ 0 ≤ R * W ∧ R * W ≤ 40 ∧ 0 ≤ D ∧ D ≤ 4 ∧ (D ≤ 0 ∨ 1 ≤ R) ∧ (1 ≤ R ∨ R * W = 0) := by omega
      have B100303 : mb (N) (R) (W) (D) (t0.1, t0.2.1, t0.2.2.1, (va_up t0.2.2.2 1 (upd (t0.2.2.2 1) (Int32.toNatClampNeg z4) r_8))) := ⟨p100299, p100300, p100301, p100302, i100279.2.2.2.2.1, i100279.2.2.2.2.2.1, i100279.2.2.2.2.2.2.1, i100279.2.2.2.2.2.2.2⟩
      have p100304 : ie [] t0.1 A := (ie_tr i100280 (by decide) (ie_refl _ _))
      have e100305 := tq_addr li_1 z4
      try rw [Int.emod_eq_of_lt (show 0 ≤ (z4).toInt + 1 + 2147483648 by omega) (show (z4).toInt + 1 + 2147483648 < 4294967296 by omega)] at e100305
      have p100306 : 0 ≤ (z4 + 1).toInt ∧ (z4 + 1).toInt ≤ R * W := by omega
      have p100307 : 0 ≤ (z1).toInt ∧ 0 ≤ (z2).toInt ∧ (z1).toInt + (z2).toInt ≤ 400 := by omega
      have p100308 : R * W - (z4 + 1).toInt < ((n : Nat) : Int) := by (omega)
      exact ih _ _ _ _ _ B100303 p100304 p100306 p100307 p100308
theorem wq_X7_scrolls_L48 {post : Int32 → Md → Prop} {e109 : Md → Int32 → Int32 → Int32 → Int32 → Prop} {D N R W : Int} {A : Nat → Int32} (h100309 : 0 < D) (ke109 : ∀ (t0 : Md) (z1 : Int32) (z2 : Int32) (z3 : Int32) (z4 : Int32), mb (N) (R) (W) (D) t0 → ie [] t0.1 A → 0 ≤ (z4).toInt ∧ (z4).toInt ≤ R * W → 0 ≤ (z1).toInt ∧ 0 ≤ (z2).toInt ∧ (z1).toInt + (z2).toInt ≤ 400 → e109 t0 z1 z2 z3 z4) : ∀ (n : Nat) (t0 : Md) (z1 : Int32) (z2 : Int32) (z3 : Int32) (z4 : Int32), mb (N) (R) (W) (D) t0 → ie [] t0.1 A → 0 ≤ (z4).toInt ∧ (z4).toInt ≤ R * W → 0 ≤ (z1).toInt ∧ 0 ≤ (z2).toInt ∧ (z1).toInt + (z2).toInt ≤ 400 → R * W - (z4).toInt < (n : Int) → wp_X7_scrolls_L48 post e109 n t0 z1 z2 z3 z4 := by
  intro n
  induction n with
  | zero =>
    intro t0 z1 z2 z3 z4 i100310 i100311 i100312 i100313 i100314
    have := i100310.1
    have := i100310.2.1
    have := i100310.2.2.1
    have := i100310.2.2.2.1
    exfalso
    omega
  | succ n ih =>
    intro t0 z1 z2 z3 z4 i100310 i100311 i100312 i100313 i100314
    unfold wp_X7_scrolls_L48
    have := i100310.1
    have := i100310.2.1
    have := i100310.2.2.1
    have := i100310.2.2.2.1
    refine wq_X7_wide i100310 (fun r_11 q100315 => ?_)
    refine wq_X7_cells i100310 (fun r_13 q100316 => ?_)
    refine ⟨fun c100317 => ?_, fun c100318 => ?_⟩
    · replace c100317 := q_le c100317
      have e100319 := tq_add z4 r_11
      try rw [Int.emod_eq_of_lt (show 0 ≤ (z4).toInt + (r_11).toInt + 2147483648 by omega) (show (z4).toInt + (r_11).toInt + 2147483648 < 4294967296 by omega)] at e100319
      have p100320 : ie [] t0.1 A := (ie_tr i100311 (by decide) (ie_refl _ _))
      have p100321 : 0 ≤ (z4).toInt ∧ (z4).toInt ≤ R * W := by omega
      have p100322 : 0 ≤ (z1).toInt ∧ 0 ≤ (z2).toInt ∧ (z1).toInt + (z2).toInt ≤ 400 := by omega
      exact ke109 _ _ _ _ _ i100310 p100320 p100321 p100322
    · replace c100318 := q_nle c100318
      have e100323 := tq_add z4 r_11
      try rw [Int.emod_eq_of_lt (show 0 ≤ (z4).toInt + (r_11).toInt + 2147483648 by omega) (show (z4).toInt + (r_11).toInt + 2147483648 < 4294967296 by omega)] at e100323
      refine wq_X7_wide i100310 (fun r_16 q100324 => ?_)
      have e100325 := tq_add z4 r_16
      try rw [Int.emod_eq_of_lt (show 0 ≤ (z4).toInt + (r_16).toInt + 2147483648 by omega) (show (z4).toInt + (r_16).toInt + 2147483648 < 4294967296 by omega)] at e100325
      have v100326 : vp_in (z4 + r_16) 40 := vi (by omega) (by omega)
      refine ⟨v100326, ?_⟩
      have p100327 : 0 ≤ (z4).toInt ∧ (z4).toInt < 40 := by omega
      have p100328 : 0 < D := by omega
      refine wq_X7_flapFor i100310 p100327 p100328 (fun r_19 q100329 => ?_)
      refine ⟨fun c100330 => ?_, fun c100331 => ?_⟩
      · replace c100330 := q_neq c100330
        rw [li_m1] at c100330
        have p100332 : 0 ≤ (z4).toInt ∧ (z4).toInt < 40 := by omega
        have p100333 : 0 < D := by omega
        try have := rw_k i100310.2.2.2.2.1 (show 0 ≤ (z4).toInt ∧ (z4).toInt < 40 by omega)
        have p100334 : 0 ≤ (r_19).toInt ∧ (r_19).toInt ≤ 39 ∧ (r_19).toInt < fl_c ((t0.2.2.1 0)) z4 := by omega
        refine wq_X7_wantsFlap i100310 p100332 p100333 p100334 (fun u_23 q100335 q100336 => ?_)
        have := q100335.1
        have := q100335.2.1
        have p100337 : ie [] u_23.1 A := (ie_tr q100336 (by decide) (ie_tr i100311 (by decide) (ie_refl _ _)))
        have e100338 := tq_addr li_1 z4
        try rw [Int.emod_eq_of_lt (show 0 ≤ (z4).toInt + 1 + 2147483648 by omega) (show (z4).toInt + 1 + 2147483648 < 4294967296 by omega)] at e100338
        have p100339 : 0 ≤ (z4 + 1).toInt ∧ (z4 + 1).toInt ≤ R * W := by omega
        have p100340 : 0 ≤ (z1).toInt ∧ 0 ≤ (z2).toInt ∧ (z1).toInt + (z2).toInt ≤ 400 := by omega
        have p100341 : R * W - (z4 + 1).toInt < ((n : Nat) : Int) := by (omega)
        exact ih _ _ _ _ _ q100335 p100337 p100339 p100340 p100341
      · replace c100331 := q_eq c100331
        rw [li_m1] at c100331
        have p100342 : ie [] t0.1 A := (ie_tr i100311 (by decide) (ie_refl _ _))
        have e100343 := tq_addr li_1 z4
        try rw [Int.emod_eq_of_lt (show 0 ≤ (z4).toInt + 1 + 2147483648 by omega) (show (z4).toInt + 1 + 2147483648 < 4294967296 by omega)] at e100343
        have p100344 : 0 ≤ (z4 + 1).toInt ∧ (z4 + 1).toInt ≤ R * W := by omega
        have p100345 : 0 ≤ (z1).toInt ∧ 0 ≤ (z2).toInt ∧ (z1).toInt + (z2).toInt ≤ 400 := by omega
        have p100346 : R * W - (z4 + 1).toInt < ((n : Nat) : Int) := by (omega)
        exact ih _ _ _ _ _ i100310 p100342 p100344 p100345 p100346
theorem wq_X7_scrolls {post : Int32 → Md → Prop} {s0 : Md} {x1 : Int32} {x2 : Int32} {N R W D : Int} (h100347 : mb (N) (R) (W) (D) s0) (h100348 : 0 < D) (h100349 : 0 ≤ (x1).toInt ∧ 0 ≤ (x2).toInt ∧ (x1).toInt + (x2).toInt ≤ 400) (k : ∀ (r : Int32) (u : Md), mb (N) (R) (W) (D) u → ie [] u.1 s0.1 → post r u) : wp_X7_scrolls post s0 x1 x2 := by
  unfold wp_X7_scrolls
  have := h100347.1
  have := h100347.2.1
  have := h100347.2.2.1
  have := h100347.2.2.2.1
  have p100350 : 0 < D := by omega
  have p100351 : ie [] s0.1 s0.1 := (ie_refl _ _)
  have p100352 : 0 ≤ (0 : Int32).toInt ∧ (0 : Int32).toInt ≤ R * W := by (have := li_0; omega)
  have p100353 : 0 ≤ (x1).toInt ∧ 0 ≤ (x2).toInt ∧ (x1).toInt + (x2).toInt ≤ 400 := by omega
  obtain ⟨f100354, g100355⟩ := fu_e 50
  have p100356 : R * W - (0 : Int32).toInt < (f100354 : Int) := by (have := li_0; omega)
  refine ⟨f100354, wq_X7_scrolls_L5 p100350 (fun t0 z1 z2 z3 z4 q100357 q100358 q100359 q100360 => ?_) f100354 _ _ _ _ _ h100347 p100351 p100352 p100353 p100356⟩
  have := q100357.1
  have := q100357.2.1
  have p100361 : 0 < D := by omega
  have p100362 : ie [] t0.1 t0.1 := (ie_refl _ _)
  have p100363 : 0 ≤ (0 : Int32).toInt ∧ (0 : Int32).toInt ≤ R * W := by (have := li_0; omega)
  have p100364 : 0 ≤ (z1).toInt ∧ 0 ≤ (z2).toInt ∧ (z1).toInt + (z2).toInt ≤ 400 := by omega
  obtain ⟨f100365, g100366⟩ := fu_e 50
  have p100367 : R * W - (0 : Int32).toInt < (f100365 : Int) := by (have := li_0; omega)
  refine ⟨f100365, wq_X7_scrolls_L48 p100361 (fun t0_100368 z1_100369 z2_100370 z3_100371 z4_100372 q100373 q100374 q100375 q100376 => ?_) f100365 _ _ _ _ _ q100357 p100362 p100363 p100364 p100367⟩
  have := q100373.1
  have := q100373.2.1
  refine wq_X7_rows q100373 (fun r_24 q100377 => ?_)
  have p100378 : 0 < D := by omega
  have e100379 := tq_subr li_1 r_24
  try rw [Int.emod_eq_of_lt (show 0 ≤ (r_24).toInt - 1 + 2147483648 by omega) (show (r_24).toInt - 1 + 2147483648 < 4294967296 by omega)] at e100379
  have p100380 : 0 ≤ (r_24 - 1).toInt ∧ (r_24 - 1).toInt < R := by omega
  have p100381 : 0 ≤ (z1_100369).toInt ∧ 0 ≤ (z2_100370).toInt ∧ (z1_100369).toInt + (z2_100370).toInt ≤ 400 := by omega
  refine wq_X7_wantsSigns q100373 p100378 p100380 p100381 (fun r_26 u_27 q100382 q100383 => ?_)
  have := q100382.1
  have := q100382.2.1
  have p100384 : ie [] u_27.1 s0.1 := (ie_tr q100383 (by decide) (ie_tr q100374 (by decide) (ie_tr q100358 (by decide) (ie_refl _ _))))
  exact k _ _ q100382 p100384
theorem wq_X7_areSigns_L2 {s0 : Md} {post : Int32 → Prop} {e29 : Int32 → Int32 → Int32 → Prop} (ke29 : ∀ (z1 : Int32) (z2 : Int32) (z3 : Int32), e29 z1 z2 z3) (k : ∀ (r : Int32), (r).toInt = 0 ∨ (r).toInt = 1 → post r) : ∀ (n : Nat) (z1 : Int32) (z2 : Int32) (z3 : Int32), 0 ≤ (z3).toInt ∧ (z3).toInt ≤ (z2).toInt → 0 ≤ (z1).toInt ∧ 0 ≤ (z2).toInt ∧ (z1).toInt + (z2).toInt ≤ 400 → (z2).toInt - (z3).toInt < (n : Int) → wp_X7_areSigns_L2 s0 post e29 n z1 z2 z3 := by
  intro n
  induction n with
  | zero =>
    intro z1 z2 z3 i100385 i100386 i100387
    exfalso
    omega
  | succ n ih =>
    intro z1 z2 z3 i100385 i100386 i100387
    unfold wp_X7_areSigns_L2
    refine ⟨fun c100388 => ?_, fun c100389 => ?_⟩
    · replace c100388 := q_le c100388
      exact ke29 _ _ _
    · replace c100389 := q_nle c100389
      have e100390 := tq_add z1 z3
      try rw [Int.emod_eq_of_lt (show 0 ≤ (z1).toInt + (z3).toInt + 2147483648 by omega) (show (z1).toInt + (z3).toInt + 2147483648 < 4294967296 by omega)] at e100390
      have v100391 : vp_in (z1 + z3) 400 := vi (by omega) (by omega)
      refine ⟨v100391, ?_⟩
      refine wq_X7_isSign (fun r_3 q100392 => ?_)
      refine ⟨fun c100393 => ?_, fun c100394 => ?_⟩
      · replace c100393 := q_neq c100393
        rw [li_0] at c100393
        have e100395 := tq_addr li_1 z3
        try rw [Int.emod_eq_of_lt (show 0 ≤ (z3).toInt + 1 + 2147483648 by omega) (show (z3).toInt + 1 + 2147483648 < 4294967296 by omega)] at e100395
        have p100396 : 0 ≤ (z3 + 1).toInt ∧ (z3 + 1).toInt ≤ (z2).toInt := by omega
        have p100397 : 0 ≤ (z1).toInt ∧ 0 ≤ (z2).toInt ∧ (z1).toInt + (z2).toInt ≤ 400 := by omega
        have p100398 : (z2).toInt - (z3 + 1).toInt < ((n : Nat) : Int) := by (omega)
        exact ih _ _ _ p100396 p100397 p100398
      · replace c100394 := q_eq c100394
        rw [li_0] at c100394
        have p100399 : (0 : Int32).toInt = 0 ∨ (0 : Int32).toInt = 1 := by (have := li_0; omega)
        exact k _ p100399
theorem wq_X7_areSigns {post : Int32 → Prop} {s0 : Md} {x1 : Int32} {x2 : Int32} (h100400 : 0 ≤ (x1).toInt ∧ 0 ≤ (x2).toInt ∧ (x1).toInt + (x2).toInt ≤ 400) (k : ∀ (r : Int32), (r).toInt = 0 ∨ (r).toInt = 1 → post r) : wp_X7_areSigns post s0 x1 x2 := by
  unfold wp_X7_areSigns
  have p100401 : 0 ≤ (0 : Int32).toInt ∧ (0 : Int32).toInt ≤ (x2).toInt := by (have := li_0; omega)
  have p100402 : 0 ≤ (x1).toInt ∧ 0 ≤ (x2).toInt ∧ (x1).toInt + (x2).toInt ≤ 400 := by omega
  obtain ⟨f100403, g100404⟩ := fu_e 500
  have p100405 : (x2).toInt - (0 : Int32).toInt < (f100403 : Int) := by (have := li_0; omega)
  refine ⟨f100403, wq_X7_areSigns_L2 (fun z1 z2 z3 => ?_) k f100403 _ _ _ p100401 p100402 p100405⟩
  have p100406 : (1 : Int32).toInt = 0 ∨ (1 : Int32).toInt = 1 := by (have := li_1; omega)
  exact k _ p100406

theorem wq_X7_isRowText {post : Int32 → Prop} {s0 : Md} {x1 : Int32} {N R W D : Int} (h100407 : mb (N) (R) (W) (D) s0) (h100408 : 0 ≤ (x1).toInt ∧ (x1).toInt ≤ 400) (k : ∀ (r : Int32), (r).toInt = 0 ∨ ((r).toInt = 1 ∧ (x1).toInt ≤ W) → post r) : wp_X7_isRowText post s0 x1 := by
  unfold wp_X7_isRowText
  have := h100407.1
  have := h100407.2.1
  have := h100407.2.2.1
  have := h100407.2.2.2.1
  refine wq_X7_wide h100407 (fun r_1 q100409 => ?_)
  refine ⟨fun c100410 => ?_, fun c100411 => ?_⟩
  · replace c100410 := q_lt c100410
    have p100412 : (0 : Int32).toInt = 0 ∨ ((0 : Int32).toInt = 1 ∧ (x1).toInt ≤ W) := by (have := li_0; omega)
    exact k _ p100412
  · replace c100411 := q_nlt c100411
    have p100413 : 0 ≤ ((0 : Int32)).toInt ∧ 0 ≤ (x1).toInt ∧ ((0 : Int32)).toInt + (x1).toInt ≤ 400 := by (have := li_0; omega)
    refine wq_X7_areSigns p100413 (fun r_4 q100414 => ?_)
    refine ⟨fun c100415 => ?_, fun c100416 => ?_⟩
    · replace c100415 := q_eq c100415
      rw [li_0] at c100415
      have p100417 : (0 : Int32).toInt = 0 ∨ ((0 : Int32).toInt = 1 ∧ (x1).toInt ≤ W) := by (have := li_0; omega)
      exact k _ p100417
    · replace c100416 := q_neq c100416
      rw [li_0] at c100416
      have p100418 : (1 : Int32).toInt = 0 ∨ ((1 : Int32).toInt = 1 ∧ (x1).toInt ≤ W) := by (have := li_1; omega)
      exact k _ p100418
theorem wq_X7_row {post : Int32 → Md → Prop} {s0 : Md} {x1 : Int32} {N R W D : Int} (h100419 : mb (N) (R) (W) (D) s0) (h100420 : R ≤ 0 ∨ 0 < D) (k : ∀ (r : Int32) (u : Md), mb ((0 : Int)) (R) (W) (D) u → post r u) : wp_X7_row post s0 x1 := by
  unfold wp_X7_row
  have := h100419.1
  have := h100419.2.1
  have := h100419.2.2.1
  have := h100419.2.2.2.1
  have p100421 : (0 : Int32).toInt = (0 : Int) := by (have := li_0; omega)
  have p100422 : 0 ≤ (s0.1 0).toInt ∧ (s0.1 0).toInt ≤ 10 := by omega
  have p100423 : 0 ≤ (0 : Int) ∧ (0 : Int) ≤ 400 := by omega
  have p100424 : 0 ≤ R ∧ R ≤ 6 ∧ 0 ≤ W ∧ W ≤ 10 ∧ 0 ≤ R * W ∧ R * W ≤ 40 ∧ 0 ≤ D ∧ D ≤ 4 ∧ (D ≤ 0 ∨ 1 ≤ R) ∧ (1 ≤ R ∨ R * W = 0) := by omega
  have B100425 : mb ((0 : Int)) (R) (W) (D) ((va_up s0.1 5 0), s0.2.1, s0.2.2.1, s0.2.2.2) := ⟨p100421, p100422, p100423, p100424, h100419.2.2.2.2.1, h100419.2.2.2.2.2.1, h100419.2.2.2.2.2.2.1, h100419.2.2.2.2.2.2.2⟩
  refine wq_X7_isRow B100425 (fun r_1 q100426 => ?_)
  replace q100426 : ((r_1).toInt = 1 ∧ 0 ≤ (x1).toInt ∧ (x1).toInt < R) ∨ ((r_1).toInt = 0 ∧ ((x1).toInt < 0 ∨ R ≤ (x1).toInt)) := q100426
  refine ⟨fun c100427 => ?_, fun c100428 => ?_⟩
  · replace c100427 := q_neq c100427
    rw [li_0] at c100427
    have p100429 : 0 ≤ (s0.1 5).toInt ∧ (s0.1 5).toInt ≤ 400 := by omega
    refine wq_X7_isRowText B100425 p100429 (fun r_4 q100430 => ?_)
    replace q100430 : (r_4).toInt = 0 ∨ ((r_4).toInt = 1 ∧ (s0.1 5).toInt ≤ W) := q100430
    refine ⟨fun c100431 => ?_, fun c100432 => ?_⟩
    · replace c100431 := q_neq c100431
      rw [li_0] at c100431
      have p100433 : R ≤ 0 ∨ 0 < D := by omega
      refine wq_X7_keepsAct B100425 p100433 (fun u_8 q100434 q100435 q100436 => ?_)
      have := q100434.1
      have := q100434.2.1
      have := q100434.2.2.1
      have p100437 : 0 < D := by omega
      have p100438 : 0 ≤ (x1).toInt ∧ (x1).toInt < R := by omega
      have p100439 : 0 ≤ ((0 : Int32)).toInt ∧ 0 ≤ (s0.1 5).toInt ∧ ((0 : Int32)).toInt + (s0.1 5).toInt ≤ 400 := by (have := li_0; omega)
      refine wq_X7_wantsSigns q100434 p100437 p100438 p100439 (fun r_9 u_10 q100440 q100441 => ?_)
      have := q100440.1
      have := q100440.2.1
      exact k _ _ q100440
    · replace c100432 := q_eq c100432
      rw [li_0] at c100432
      exact k _ _ B100425
  · replace c100428 := q_eq c100428
    rw [li_0] at c100428
    exact k _ _ B100425
theorem wq_X7_scroll {post : Int32 → Md → Prop} {s0 : Md} {N R W D : Int} (h100442 : mb (N) (R) (W) (D) s0) (h100443 : R ≤ 0 ∨ 0 < D) (k : ∀ (r : Int32) (u : Md), mb ((0 : Int)) (R) (W) (D) u → post r u) : wp_X7_scroll post s0 := by
  unfold wp_X7_scroll
  have := h100442.1
  have := h100442.2.1
  have := h100442.2.2.1
  have := h100442.2.2.2.1
  have p100444 : (0 : Int32).toInt = (0 : Int) := by (have := li_0; omega)
  have p100445 : 0 ≤ (s0.1 0).toInt ∧ (s0.1 0).toInt ≤ 10 := by omega
  have p100446 : 0 ≤ (0 : Int) ∧ (0 : Int) ≤ 400 := by omega
  have p100447 : 0 ≤ R ∧ R ≤ 6 ∧ 0 ≤ W ∧ W ≤ 10 ∧ 0 ≤ R * W ∧ R * W ≤ 40 ∧ 0 ≤ D ∧ D ≤ 4 ∧ (D ≤ 0 ∨ 1 ≤ R) ∧ (1 ≤ R ∨ R * W = 0) := by omega
  have B100448 : mb ((0 : Int)) (R) (W) (D) ((va_up s0.1 5 0), s0.2.1, s0.2.2.1, s0.2.2.2) := ⟨p100444, p100445, p100446, p100447, h100442.2.2.2.2.1, h100442.2.2.2.2.2.1, h100442.2.2.2.2.2.2.1, h100442.2.2.2.2.2.2.2⟩
  refine wq_X7_isBoard B100448 (fun r_1 q100449 => ?_)
  replace q100449 : ((r_1).toInt = 1 ∧ 0 < D) ∨ ((r_1).toInt = 0 ∧ D ≤ 0) := q100449
  refine ⟨fun c100450 => ?_, fun c100451 => ?_⟩
  · replace c100450 := q_neq c100450
    rw [li_0] at c100450
    have p100452 : 0 ≤ (s0.1 5).toInt ∧ (s0.1 5).toInt ≤ 400 := by omega
    refine wq_X7_isRowText B100448 p100452 (fun r_4 q100453 => ?_)
    replace q100453 : (r_4).toInt = 0 ∨ ((r_4).toInt = 1 ∧ (s0.1 5).toInt ≤ W) := q100453
    refine ⟨fun c100454 => ?_, fun c100455 => ?_⟩
    · replace c100454 := q_neq c100454
      rw [li_0] at c100454
      have p100456 : R ≤ 0 ∨ 0 < D := by omega
      refine wq_X7_keepsAct B100448 p100456 (fun u_8 q100457 q100458 q100459 => ?_)
      have := q100457.1
      have := q100457.2.1
      have := q100457.2.2.1
      have p100460 : 0 < D := by omega
      have p100461 : 0 ≤ ((0 : Int32)).toInt ∧ 0 ≤ (s0.1 5).toInt ∧ ((0 : Int32)).toInt + (s0.1 5).toInt ≤ 400 := by (have := li_0; omega)
      refine wq_X7_scrolls q100457 p100460 p100461 (fun r_9 u_10 q100462 q100463 => ?_)
      have := q100462.1
      have := q100462.2.1
      exact k _ _ q100462
    · replace c100455 := q_eq c100455
      rw [li_0] at c100455
      exact k _ _ B100448
  · replace c100451 := q_eq c100451
    rw [li_0] at c100451
    exact k _ _ B100448
theorem wq_X7_tick_L29 {post : Int32 → Md → Prop} {e47 : Md → Int32 → Int32 → Int32 → Prop} {D N R W : Int} (h100464 : 0 < D) (ke47 : ∀ (t0 : Md) (z1 : Int32) (z2 : Int32) (z3 : Int32), mb (N) (R) (W) (D) t0 → 0 ≤ (z3).toInt ∧ (z3).toInt ≤ (z1).toInt ∧ (z1).toInt ≤ 99 → e47 t0 z1 z2 z3) : ∀ (n : Nat) (t0 : Md) (z1 : Int32) (z2 : Int32) (z3 : Int32), mb (N) (R) (W) (D) t0 → 0 ≤ (z3).toInt ∧ (z3).toInt ≤ (z1).toInt ∧ (z1).toInt ≤ 99 → (z1).toInt - (z3).toInt < (n : Int) → wp_X7_tick_L29 post e47 n t0 z1 z2 z3 := by
  intro n
  induction n with
  | zero =>
    intro t0 z1 z2 z3 i100465 i100466 i100467
    have := i100465.1
    have := i100465.2.1
    have := i100465.2.2.1
    have := i100465.2.2.2.1
    exfalso
    omega
  | succ n ih =>
    intro t0 z1 z2 z3 i100465 i100466 i100467
    unfold wp_X7_tick_L29
    have := i100465.1
    have := i100465.2.1
    have := i100465.2.2.1
    have := i100465.2.2.2.1
    refine ⟨fun c100468 => ?_, fun c100469 => ?_⟩
    · replace c100468 := q_le c100468
      have p100470 : 0 ≤ (z3).toInt ∧ (z3).toInt ≤ (z1).toInt ∧ (z1).toInt ≤ 99 := by omega
      exact ke47 _ _ _ _ i100465 p100470
    · replace c100469 := q_nle c100469
      have p100471 : 0 < D := by omega
      refine wq_X7_ticks i100465 p100471 (fun r_10 u_11 q100472 q100473 q100474 q100475 => ?_)
      have := q100472.1
      have := q100472.2.1
      have e100476 := tq_addr li_1 z3
      try rw [Int.emod_eq_of_lt (show 0 ≤ (z3).toInt + 1 + 2147483648 by omega) (show (z3).toInt + 1 + 2147483648 < 4294967296 by omega)] at e100476
      have p100477 : 0 ≤ (z3 + 1).toInt ∧ (z3 + 1).toInt ≤ (z1).toInt ∧ (z1).toInt ≤ 99 := by omega
      have p100478 : (z1).toInt - (z3 + 1).toInt < ((n : Nat) : Int) := by (omega)
      exact ih _ _ _ _ q100472 p100477 p100478
theorem wq_X7_tick {post : Int32 → Md → Prop} {s0 : Md} {x1 : Int32} {N R W D : Int} (h100479 : mb (N) (R) (W) (D) s0) (h100480 : R ≤ 0 ∨ 0 < D) (k : ∀ (r : Int32) (u : Md), mb (N) (R) (W) (D) u → post r u) : wp_X7_tick post s0 x1 := by
  unfold wp_X7_tick
  have := h100479.1
  have := h100479.2.1
  have := h100479.2.2.1
  have := h100479.2.2.2.1
  refine wq_X7_isBoard h100479 (fun r_1 q100481 => ?_)
  refine ⟨fun c100482 => ?_, fun c100483 => ?_⟩
  · replace c100482 := q_eq c100482
    rw [li_0] at c100482
    exact k _ _ h100479
  · replace c100483 := q_neq c100483
    rw [li_0] at c100483
    refine wq_X7_in (fun r_4 q100484 => ?_)
    try simp only [lj_1, lj_99] at q100484
    have := tq_64 x1
    refine ⟨fun c100485 => ?_, fun c100486 => ?_⟩
    · replace c100485 := q_neq c100485
      rw [li_0] at c100485
      have p100487 : R ≤ 0 ∨ 0 < D := by omega
      refine wq_X7_keepsAct h100479 p100487 (fun u_8 q100488 q100489 q100490 => ?_)
      have := q100488.1
      have := q100488.2.1
      have p100491 : 0 < D := by omega
      have p100492 : 0 ≤ (0 : Int32).toInt ∧ (0 : Int32).toInt ≤ (x1).toInt ∧ (x1).toInt ≤ 99 := by (have := li_0; omega)
      obtain ⟨f100493, g100494⟩ := fu_e 200
      have p100495 : (x1).toInt - (0 : Int32).toInt < (f100493 : Int) := by (have := li_0; omega)
      refine ⟨f100493, wq_X7_tick_L29 p100491 (fun t0 z1 z2 z3 q100496 q100497 => ?_) f100493 _ _ _ _ q100488 p100492 p100495⟩
      have := q100496.1
      have := q100496.2.1
      exact k _ _ q100496
    · replace c100486 := q_eq c100486
      rw [li_0] at c100486
      exact k _ _ h100479
theorem wq_X7_settle {post : Int32 → Md → Prop} {s0 : Md} {N R W D : Int} (h100498 : mb (N) (R) (W) (D) s0) (h100499 : R ≤ 0 ∨ 0 < D) (k : ∀ (r : Int32) (u : Md), mb (N) (R) (W) (D) u → post r u) : wp_X7_settle post s0 := by
  unfold wp_X7_settle
  have := h100498.1
  have := h100498.2.1
  have := h100498.2.2.1
  have := h100498.2.2.2.1
  refine wq_X7_isBoard h100498 (fun r_1 q100500 => ?_)
  refine ⟨fun c100501 => ?_, fun c100502 => ?_⟩
  · replace c100501 := q_neq c100501
    rw [li_0] at c100501
    have p100503 : 0 < D := by omega
    refine wq_X7_findsTurningB h100498 p100503 (fun u_5 q100504 q100505 q100506 => ?_)
    have := q100504.1
    have := q100504.2.1
    refine ⟨fun c100507 => ?_, fun c100508 => ?_⟩
    · replace c100507 := q_neq c100507
      rw [li_0] at c100507
      have p100509 : R ≤ 0 ∨ 0 < D := by omega
      refine wq_X7_keepsAct q100504 p100509 (fun u_8 q100510 q100511 q100512 => ?_)
      have := q100510.1
      have := q100510.2.1
      have p100513 : 0 < D := by omega
      refine wq_X7_settles q100510 p100513 (fun r_9 u_10 q100514 q100515 => ?_)
      have := q100514.1
      have := q100514.2.1
      exact k _ _ q100514
    · replace c100508 := q_eq c100508
      rw [li_0] at c100508
      exact k _ _ q100504
  · replace c100502 := q_eq c100502
    rw [li_0] at c100502
    exact k _ _ h100498
theorem wq_X7_lose {post : Int32 → Md → Prop} {s0 : Md} {x1 : Int32} {x2 : Int32} {N R W D : Int} (h100516 : mb (N) (R) (W) (D) s0) (h100517 : R ≤ 0 ∨ 0 < D) (k : ∀ (r : Int32) (u : Md), mb (N) (R) (W) (D) u → post r u) : wp_X7_lose post s0 x1 x2 := by
  unfold wp_X7_lose
  have := h100516.1
  have := h100516.2.1
  have := h100516.2.2.1
  have := h100516.2.2.2.1
  refine wq_X7_isCell h100516 (fun r_1 q100518 => ?_)
  refine ⟨fun c100519 => ?_, fun c100520 => ?_⟩
  · replace c100519 := q_eq c100519
    rw [li_0] at c100519
    exact k _ _ h100516
  · replace c100520 := q_neq c100520
    rw [li_0] at c100520
    refine wq_X7_in (fun r_4 q100521 => ?_)
    try simp only [lj_0, lj_9] at q100521
    have := tq_64 x2
    refine ⟨fun c100522 => ?_, fun c100523 => ?_⟩
    · replace c100522 := q_neq c100522
      rw [li_0] at c100522
      have p100524 : 0 ≤ (x1).toInt ∧ (x1).toInt < 40 := by omega
      refine wq_X7_of_4 h100516 p100524 (fun r_7 q100525 q100526 => ?_)
      refine ⟨fun c100527 => ?_, fun c100528 => ?_⟩
      · replace c100527 := q_neq c100527
        have p100529 : R ≤ 0 ∨ 0 < D := by omega
        refine wq_X7_keepsAct h100516 p100529 (fun u_11 q100530 q100531 q100532 => ?_)
        have := q100530.1
        have := q100530.2.1
        have p100533 : 0 ≤ (x1).toInt ∧ (x1).toInt < 40 := by omega
        have p100534 : 0 ≤ (Int32.toInt64 x2).toInt ∧ (Int32.toInt64 x2).toInt ≤ 9 := by omega
        refine wq_X7_sets_4 q100530 p100533 p100534 (fun u_13 q100535 q100536 q100537 => ?_)
        have := q100535.1
        have := q100535.2.1
        exact k _ _ q100535
      · replace c100528 := q_eq c100528
        exact k _ _ h100516
    · replace c100523 := q_eq c100523
      rw [li_0] at c100523
      exact k _ _ h100516
theorem wq_X7_isFlap {post : Int32 → Prop} {s0 : Md} {x1 : Int32} {x2 : Int32} {N R W D : Int} (h100538 : mb (N) (R) (W) (D) s0) (h100539 : R ≤ 0 ∨ 0 < D) (k : ∀ (r : Int32), (r).toInt = 0 ∨ ((r).toInt = 1 ∧ 0 < D ∧ 0 ≤ (x1).toInt ∧ (x1).toInt < R * W ∧ 1 ≤ (x2).toInt ∧ (x2).toInt ≤ 39 ∧ (x2).toInt < fl_c ((s0.2.2.1 0)) x1) → post r) : wp_X7_isFlap post s0 x1 x2 := by
  unfold wp_X7_isFlap
  have := h100538.1
  have := h100538.2.1
  have := h100538.2.2.1
  have := h100538.2.2.2.1
  refine wq_X7_isCell h100538 (fun r_1 q100540 => ?_)
  refine ⟨fun c100541 => ?_, fun c100542 => ?_⟩
  · replace c100541 := q_eq c100541
    rw [li_0] at c100541
    try have := rw_k h100538.2.2.2.2.1 (show 0 ≤ (x1).toInt ∧ (x1).toInt < 40 by omega)
    have p100543 : (0 : Int32).toInt = 0 ∨ ((0 : Int32).toInt = 1 ∧ 0 < D ∧ 0 ≤ (x1).toInt ∧ (x1).toInt < R * W ∧ 1 ≤ (x2).toInt ∧ (x2).toInt ≤ 39 ∧ (x2).toInt < fl_c ((s0.2.2.1 0)) x1) := by (have := li_0; omega)
    exact k _ p100543
  · replace c100542 := q_neq c100542
    rw [li_0] at c100542
    have p100544 : 0 ≤ (x1).toInt ∧ (x1).toInt < 40 := by omega
    refine wq_X7_flaps h100538 p100544 (fun r_4 q100545 => ?_)
    refine wq_X7_in (fun r_6 q100546 => ?_)
    try simp only [lj_1] at q100546
    have := tq_64 x2
    have e100547 := tq_subr li_1 r_4
    try rw [Int.emod_eq_of_lt (show 0 ≤ (r_4).toInt - 1 + 2147483648 by omega) (show (r_4).toInt - 1 + 2147483648 < 4294967296 by omega)] at e100547
    have := tq_64 (r_4 - 1)
    refine ⟨fun c100548 => ?_, fun c100549 => ?_⟩
    · replace c100548 := q_eq c100548
      rw [li_0] at c100548
      try have := rw_k h100538.2.2.2.2.1 (show 0 ≤ (x1).toInt ∧ (x1).toInt < 40 by omega)
      have p100550 : (0 : Int32).toInt = 0 ∨ ((0 : Int32).toInt = 1 ∧ 0 < D ∧ 0 ≤ (x1).toInt ∧ (x1).toInt < R * W ∧ 1 ≤ (x2).toInt ∧ (x2).toInt ≤ 39 ∧ (x2).toInt < fl_c ((s0.2.2.1 0)) x1) := by (have := li_0; omega)
      exact k _ p100550
    · replace c100549 := q_neq c100549
      rw [li_0] at c100549
      try have := rw_k h100538.2.2.2.2.1 (show 0 ≤ (x1).toInt ∧ (x1).toInt < 40 by omega)
      have p100551 : (1 : Int32).toInt = 0 ∨ ((1 : Int32).toInt = 1 ∧ 0 < D ∧ 0 ≤ (x1).toInt ∧ (x1).toInt < R * W ∧ 1 ≤ (x2).toInt ∧ (x2).toInt ≤ 39 ∧ (x2).toInt < fl_c ((s0.2.2.1 0)) x1) := by (have := li_1; omega)
      exact k _ p100551
theorem wq_X7_wears {post : Md → Prop} {s0 : Md} {x1 : Int32} {x2 : Int32} {N R W D : Int} (h100552 : mb (N) (R) (W) (D) s0) (h100553 : 0 ≤ (x1).toInt ∧ (x1).toInt < 40) (h100554 : 0 < D) (k : ∀ (u : Md), mb (N) (R) (W) (D) u → ie [] u.1 s0.1 → post u) : wp_X7_wears post s0 x1 x2 := by
  unfold wp_X7_wears
  have := h100552.1
  have := h100552.2.1
  have := h100552.2.2.1
  have := h100552.2.2.2.1
  have p100555 : 0 ≤ (x1).toInt ∧ (x1).toInt < 40 := by omega
  refine wq_X7_wornOf p100555 (fun r_1 => ?_)
  have p100556 : 0 ≤ (x1).toInt ∧ (x1).toInt < 40 := by omega
  refine wq_X7_sets_7 h100552 p100556 (fun u_4 q100557 q100558 q100559 => ?_)
  have := q100557.1
  have := q100557.2.1
  have p100560 : 0 ≤ (x1).toInt ∧ (x1).toInt < 40 := by omega
  refine wq_X7_of_3 q100557 p100560 (fun r_5 q100561 q100562 => ?_)
  refine ⟨fun c100563 => ?_, fun c100564 => ?_⟩
  · replace c100563 := q_neq c100563
    have p100565 : ie [] u_4.1 s0.1 := (ie_tr q100558 (by decide) (ie_refl _ _))
    exact k _ q100557 p100565
  · replace c100564 := q_eq c100564
    have p100566 : 0 ≤ (x1).toInt ∧ (x1).toInt < 40 := by omega
    try have := rw_k q100557.2.2.2.2.1 (show 0 ≤ (x1).toInt ∧ (x1).toInt < 40 by omega)
    have p100567 : 0 ≤ ((0 : Int64)).toInt ∧ ((D ≤ 0 ∧ ((0 : Int64)).toInt = 0) ∨ (0 < D ∧ ((0 : Int64)).toInt < fl_c ((u_4.2.2.1 0)) x1)) := by (have := lj_0; omega)
    refine wq_X7_sets_3 q100557 p100566 p100567 (fun u_9 q100568 q100569 q100570 => ?_)
    have := q100568.1
    have := q100568.2.1
    have p100571 : ie [] u_9.1 s0.1 := (ie_tr q100569 (by decide) (ie_tr q100558 (by decide) (ie_refl _ _)))
    exact k _ q100568 p100571
theorem wq_X7_wear {post : Int32 → Md → Prop} {s0 : Md} {x1 : Int32} {x2 : Int32} {N R W D : Int} (h100572 : mb (N) (R) (W) (D) s0) (h100573 : R ≤ 0 ∨ 0 < D) (k : ∀ (r : Int32) (u : Md), mb (N) (R) (W) (D) u → post r u) : wp_X7_wear post s0 x1 x2 := by
  unfold wp_X7_wear
  have := h100572.1
  have := h100572.2.1
  have := h100572.2.2.1
  have := h100572.2.2.2.1
  have p100574 : R ≤ 0 ∨ 0 < D := by omega
  refine wq_X7_isFlap h100572 p100574 (fun r_1 q100575 => ?_)
  refine ⟨fun c100576 => ?_, fun c100577 => ?_⟩
  · replace c100576 := q_neq c100576
    rw [li_0] at c100576
    have p100578 : 0 ≤ (x1).toInt ∧ (x1).toInt < 40 := by omega
    refine wq_X7_wornOf p100578 (fun r_4 => ?_)
    refine wq_X7_isIn (fun r_6 q100579 => ?_)
    refine ⟨fun c100580 => ?_, fun c100581 => ?_⟩
    · replace c100580 := q_eq c100580
      rw [li_0] at c100580
      have p100582 : R ≤ 0 ∨ 0 < D := by omega
      refine wq_X7_keepsAct h100572 p100582 (fun u_10 q100583 q100584 q100585 => ?_)
      have := q100583.1
      have := q100583.2.1
      have p100586 : 0 ≤ (x1).toInt ∧ (x1).toInt < 40 := by omega
      have p100587 : 0 < D := by omega
      refine wq_X7_wears q100583 p100586 p100587 (fun u_12 q100588 q100589 => ?_)
      have := q100588.1
      have := q100588.2.1
      have p100590 : 0 ≤ (x1).toInt ∧ (x1).toInt < 40 := by omega
      refine wq_X7_wornOf p100590 (fun r_13 => ?_)
      refine wq_X7_bits (fun r_15 => ?_)
      exact k _ _ q100588
    · replace c100581 := q_neq c100581
      rw [li_0] at c100581
      exact k _ _ h100572
  · replace c100577 := q_eq c100577
    rw [li_0] at c100577
    exact k _ _ h100572

theorem wq_X7_mend {post : Int32 → Md → Prop} {s0 : Md} {x1 : Int32} {x2 : Int32} {N R W D : Int} (h100591 : mb (N) (R) (W) (D) s0) (h100592 : R ≤ 0 ∨ 0 < D) (k : ∀ (r : Int32) (u : Md), mb (N) (R) (W) (D) u → post r u) : wp_X7_mend post s0 x1 x2 := by
  unfold wp_X7_mend
  have := h100591.1
  have := h100591.2.1
  have := h100591.2.2.1
  have := h100591.2.2.2.1
  have p100593 : R ≤ 0 ∨ 0 < D := by omega
  refine wq_X7_isFlap h100591 p100593 (fun r_1 q100594 => ?_)
  refine ⟨fun c100595 => ?_, fun c100596 => ?_⟩
  · replace c100595 := q_neq c100595
    rw [li_0] at c100595
    have p100597 : 0 ≤ (x1).toInt ∧ (x1).toInt < 40 := by omega
    refine wq_X7_wornOf p100597 (fun r_4 => ?_)
    refine wq_X7_isIn (fun r_6 q100598 => ?_)
    refine ⟨fun c100599 => ?_, fun c100600 => ?_⟩
    · replace c100599 := q_neq c100599
      rw [li_0] at c100599
      have p100601 : R ≤ 0 ∨ 0 < D := by omega
      refine wq_X7_keepsAct h100591 p100601 (fun u_10 q100602 q100603 q100604 => ?_)
      have := q100602.1
      have := q100602.2.1
      have p100605 : 0 ≤ (x1).toInt ∧ (x1).toInt < 40 := by omega
      refine wq_X7_wornOf p100605 (fun r_11 => ?_)
      have p100606 : 0 ≤ (x1).toInt ∧ (x1).toInt < 40 := by omega
      refine wq_X7_sets_7 q100602 p100606 (fun u_14 q100607 q100608 q100609 => ?_)
      have := q100607.1
      have := q100607.2.1
      have p100610 : 0 ≤ (x1).toInt ∧ (x1).toInt < 40 := by omega
      refine wq_X7_wornOf p100610 (fun r_15 => ?_)
      refine wq_X7_bits (fun r_17 => ?_)
      exact k _ _ q100607
    · replace c100600 := q_eq c100600
      rw [li_0] at c100600
      exact k _ _ h100591
  · replace c100596 := q_eq c100596
    rw [li_0] at c100596
    exact k _ _ h100591
theorem wq_X7_limit {post : Int32 → Md → Prop} {s0 : Md} {x1 : Int32} {N R W D : Int} (h100611 : mb (N) (R) (W) (D) s0) (h100612 : R ≤ 0 ∨ 0 < D) (k : ∀ (r : Int32) (u : Md), mb (N) (R) (W) (D) u → post r u) : wp_X7_limit post s0 x1 := by
  unfold wp_X7_limit
  have := h100611.1
  have := h100611.2.1
  have := h100611.2.2.1
  have := h100611.2.2.2.1
  refine wq_X7_isBoard h100611 (fun r_1 q100613 => ?_)
  refine ⟨fun c100614 => ?_, fun c100615 => ?_⟩
  · replace c100614 := q_eq c100614
    rw [li_0] at c100614
    exact k _ _ h100611
  · replace c100615 := q_neq c100615
    rw [li_0] at c100615
    refine wq_X7_in (fun r_4 q100616 => ?_)
    try simp only [lj_1, lj_99] at q100616
    have := tq_64 x1
    refine ⟨fun c100617 => ?_, fun c100618 => ?_⟩
    · replace c100617 := q_neq c100617
      rw [li_0] at c100617
      refine ⟨fun c100619 => ?_, fun c100620 => ?_⟩
      · replace c100619 := q_neq c100619
        have e100621 := tq_32 (s0.2.2.1 0 (Int32.toNatClampNeg 2))
        try rw [Int.emod_eq_of_lt (show 0 ≤ (s0.2.2.1 0 (Int32.toNatClampNeg 2)).toInt + 2147483648 by omega) (show (s0.2.2.1 0 (Int32.toNatClampNeg 2)).toInt + 2147483648 < 4294967296 by omega)] at e100621
        have p100622 : R ≤ 0 ∨ 0 < D := by omega
        refine wq_X7_keepsAct h100611 p100622 (fun u_9 q100623 q100624 q100625 => ?_)
        have := q100623.1
        have := q100623.2.1
        have : (u_9.1 5).toInt = (s0.1 5).toInt := ie_i q100624 5 (by decide)
        have p100626 : (u_9.1 5).toInt = N := by omega
        have p100627 : 0 ≤ (u_9.1 0).toInt ∧ (u_9.1 0).toInt ≤ 10 := by omega
        have p100628 : 0 ≤ N ∧ N ≤ 400 := by omega
        have p100629 : 0 ≤ R ∧ R ≤ 6 ∧ 0 ≤ W ∧ W ≤ 10 ∧ 0 ≤ R * W ∧ R * W ≤ 40 ∧ 0 ≤ D ∧ D ≤ 4 ∧ (D ≤ 0 ∨ 1 ≤ R) ∧ (1 ≤ R ∨ R * W = 0) := by omega
        have B100630 : mb (N) (R) (W) (D) (u_9.1, u_9.2.1, (va_up u_9.2.2.1 0 (vp_updL (u_9.2.2.1 0) (Int32.toNatClampNeg 2) (Int32.toInt64 x1))), u_9.2.2.2) := ⟨p100626, p100627, p100628, p100629, (rw_lim q100623.2.2.2.2.1 (by omega)), q100623.2.2.2.2.2.1, q100623.2.2.2.2.2.2.1, q100623.2.2.2.2.2.2.2⟩
        exact k _ _ B100630
      · replace c100620 := q_eq c100620
        have e100631 := tq_32 (s0.2.2.1 0 (Int32.toNatClampNeg 2))
        try rw [Int.emod_eq_of_lt (show 0 ≤ (s0.2.2.1 0 (Int32.toNatClampNeg 2)).toInt + 2147483648 by omega) (show (s0.2.2.1 0 (Int32.toNatClampNeg 2)).toInt + 2147483648 < 4294967296 by omega)] at e100631
        exact k _ _ h100611
    · replace c100618 := q_eq c100618
      rw [li_0] at c100618
      exact k _ _ h100611
theorem wq_X7_exchange_L109 {post : Int32 → Md → Prop} {e131 : Md → Int32 → Int32 → Int32 → Int32 → Int64 → Int32 → Prop} {N R W D : Int} (ke131 : ∀ (t0 : Md) (z1 : Int32) (z2 : Int32) (z3 : Int32) (z4 : Int32) (w5 : Int64) (z7 : Int32), mb (N) (R) (W) (D) t0 → 496 ≤ (z7).toInt ∧ (z7).toInt ≤ 6896 → e131 t0 z1 z2 z3 z4 w5 z7) : ∀ (n : Nat) (t0 : Md) (z1 : Int32) (z2 : Int32) (z3 : Int32) (z4 : Int32) (w5 : Int64) (z7 : Int32), mb (N) (R) (W) (D) t0 → 496 ≤ (z7).toInt ∧ (z7).toInt ≤ 6896 → 6896 - (z7).toInt < (n : Int) → wp_X7_exchange_L109 post e131 n t0 z1 z2 z3 z4 w5 z7 := by
  intro n
  induction n with
  | zero =>
    intro t0 z1 z2 z3 z4 w5 z7 i100632 i100633 i100634
    have := i100632.1
    have := i100632.2.1
    have := i100632.2.2.1
    have := i100632.2.2.2.1
    exfalso
    omega
  | succ n ih =>
    intro t0 z1 z2 z3 z4 w5 z7 i100632 i100633 i100634
    unfold wp_X7_exchange_L109
    have := i100632.1
    have := i100632.2.1
    have := i100632.2.2.1
    have := i100632.2.2.2.1
    refine ⟨fun c100635 => ?_, fun c100636 => ?_⟩
    · replace c100635 := q_le c100635
      rw [li_6896] at c100635
      have p100637 : 496 ≤ (z7).toInt ∧ (z7).toInt ≤ 6896 := by omega
      exact ke131 _ _ _ _ _ _ _ i100632 p100637
    · replace c100636 := q_nle c100636
      rw [li_6896] at c100636
      have v100638 : vp_in z7 6896 := vi (by omega) (by omega)
      refine ⟨v100638, ?_⟩
      have p100639 : (t0.1 5).toInt = N := by omega
      have p100640 : 0 ≤ (t0.1 0).toInt ∧ (t0.1 0).toInt ≤ 10 := by omega
      have p100641 : 0 ≤ N ∧ N ≤ 400 := by omega
      have p100642 : 0 ≤ R ∧ R ≤ 6 ∧ 0 ≤ W ∧ W ≤ 10 ∧ 0 ≤ R * W ∧ R * W ≤ 40 ∧ 0 ≤ D ∧ D ≤ 4 ∧ (D ≤ 0 ∨ 1 ≤ R) ∧ (1 ≤ R ∨ R * W = 0) := by omega
      have B100643 : mb (N) (R) (W) (D) (t0.1, t0.2.1, (va_up t0.2.2.1 0 (vp_updL (t0.2.2.1 0) (Int32.toNatClampNeg z7) 0)), t0.2.2.2) := ⟨p100639, p100640, p100641, p100642, (rw_irr i100632.2.2.2.2.1 (by rw [tn_i]; unfold rw_rel; omega)), i100632.2.2.2.2.2.1, i100632.2.2.2.2.2.2.1, i100632.2.2.2.2.2.2.2⟩
      have e100644 := tq_addr li_1 z7
      try rw [Int.emod_eq_of_lt (show 0 ≤ (z7).toInt + 1 + 2147483648 by omega) (show (z7).toInt + 1 + 2147483648 < 4294967296 by omega)] at e100644
      have p100645 : 496 ≤ (z7 + 1).toInt ∧ (z7 + 1).toInt ≤ 6896 := by omega
      have p100646 : 6896 - (z7 + 1).toInt < ((n : Nat) : Int) := by (omega)
      exact ih _ _ _ _ _ _ _ B100643 p100645 p100646
theorem wq_X7_exchange {post : Int32 → Md → Prop} {s0 : Md} {x1 : Int32} {x2 : Int32} {x3 : Int32} {N R W D : Int} (h100647 : mb (N) (R) (W) (D) s0) (h100648 : R ≤ 0 ∨ 0 < D) (k : ∀ (r : Int32) (u : Md), mb (N) (R) (W) (D) u → post r u) : wp_X7_exchange post s0 x1 x2 x3 := by
  unfold wp_X7_exchange
  have := h100647.1
  have := h100647.2.1
  have := h100647.2.2.1
  have := h100647.2.2.2.1
  refine wq_X7_isDrum h100647 (fun r_1 q100649 => ?_)
  refine ⟨fun c100650 => ?_, fun c100651 => ?_⟩
  · replace c100650 := q_eq c100650
    rw [li_0] at c100650
    exact k _ _ h100647
  · replace c100651 := q_neq c100651
    rw [li_0] at c100651
    have p100652 : 0 ≤ (x1).toInt ∧ (x1).toInt < 4 := by omega
    refine wq_X7_flapsOf h100647 p100652 (fun r_4 q100653 => ?_)
    refine wq_X7_in (fun r_6 q100654 => ?_)
    try simp only [lj_1] at q100654
    have := tq_64 x2
    have e100655 := tq_subr li_1 r_4
    try rw [Int.emod_eq_of_lt (show 0 ≤ (r_4).toInt - 1 + 2147483648 by omega) (show (r_4).toInt - 1 + 2147483648 < 4294967296 by omega)] at e100655
    have := tq_64 (r_4 - 1)
    refine ⟨fun c100656 => ?_, fun c100657 => ?_⟩
    · replace c100656 := q_eq c100656
      rw [li_0] at c100656
      exact k _ _ h100647
    · replace c100657 := q_neq c100657
      rw [li_0] at c100657
      have p100658 : 0 ≤ (x1).toInt ∧ (x1).toInt < 4 := by omega
      refine wq_X7_flapsOf h100647 p100658 (fun r_9 q100659 => ?_)
      refine wq_X7_in (fun r_11 q100660 => ?_)
      try simp only [lj_1] at q100660
      have := tq_64 x3
      have e100661 := tq_subr li_1 r_9
      try rw [Int.emod_eq_of_lt (show 0 ≤ (r_9).toInt - 1 + 2147483648 by omega) (show (r_9).toInt - 1 + 2147483648 < 4294967296 by omega)] at e100661
      have := tq_64 (r_9 - 1)
      refine ⟨fun c100662 => ?_, fun c100663 => ?_⟩
      · replace c100662 := q_eq c100662
        rw [li_0] at c100662
        exact k _ _ h100647
      · replace c100663 := q_neq c100663
        rw [li_0] at c100663
        refine ⟨fun c100664 => ?_, fun c100665 => ?_⟩
        · replace c100664 := q_neq c100664
          have p100666 : R ≤ 0 ∨ 0 < D := by omega
          refine wq_X7_keepsAct h100647 p100666 (fun u_16 q100667 q100668 q100669 => ?_)
          have := q100667.1
          have := q100667.2.1
          have e100670 := tq_mulc li_42 x1
          try rw [Int.emod_eq_of_lt (show 0 ≤ 42 * (x1).toInt + 2147483648 by omega) (show 42 * (x1).toInt + 2147483648 < 4294967296 by omega)] at e100670
          have e100671 := tq_addc li_8 (42 * x1)
          try rw [Int.emod_eq_of_lt (show 0 ≤ 8 + (42 * x1).toInt + 2147483648 by omega) (show 8 + (42 * x1).toInt + 2147483648 < 4294967296 by omega)] at e100671
          have e100672 := tq_addr li_2 (8 + (42 * x1))
          try rw [Int.emod_eq_of_lt (show 0 ≤ (8 + (42 * x1)).toInt + 2 + 2147483648 by omega) (show (8 + (42 * x1)).toInt + 2 + 2147483648 < 4294967296 by omega)] at e100672
          have e100673 := tq_add ((8 + (42 * x1)) + 2) x2
          try rw [Int.emod_eq_of_lt (show 0 ≤ ((8 + (42 * x1)) + 2).toInt + (x2).toInt + 2147483648 by omega) (show ((8 + (42 * x1)) + 2).toInt + (x2).toInt + 2147483648 < 4294967296 by omega)] at e100673
          have v100674 : vp_in (((8 + (42 * x1)) + 2) + x2) 6896 := vi (by omega) (by omega)
          refine ⟨v100674, ?_⟩
          have e100675 := tq_add ((8 + (42 * x1)) + 2) x3
          try rw [Int.emod_eq_of_lt (show 0 ≤ ((8 + (42 * x1)) + 2).toInt + (x3).toInt + 2147483648 by omega) (show ((8 + (42 * x1)) + 2).toInt + (x3).toInt + 2147483648 < 4294967296 by omega)] at e100675
          have v100676 : vp_in (((8 + (42 * x1)) + 2) + x3) 6896 := vi (by omega) (by omega)
          refine ⟨v100676, ?_⟩
          refine ⟨v100674, ?_⟩
          refine ⟨v100676, ?_⟩
          have : (u_16.1 5).toInt = (s0.1 5).toInt := ie_i q100668 5 (by decide)
          have p100677 : (u_16.1 5).toInt = N := by omega
          have p100678 : 0 ≤ (u_16.1 0).toInt ∧ (u_16.1 0).toInt ≤ 10 := by omega
          have p100679 : 0 ≤ N ∧ N ≤ 400 := by omega
          have p100680 : 0 ≤ R ∧ R ≤ 6 ∧ 0 ≤ W ∧ W ≤ 10 ∧ 0 ≤ R * W ∧ R * W ≤ 40 ∧ 0 ≤ D ∧ D ≤ 4 ∧ (D ≤ 0 ∨ 1 ≤ R) ∧ (1 ≤ R ∨ R * W = 0) := by omega
          have B100681 : mb (N) (R) (W) (D) (u_16.1, u_16.2.1, (va_up u_16.2.2.1 0 (vp_updL (vp_updL (u_16.2.2.1 0) (Int32.toNatClampNeg (((8 + (42 * x1)) + 2) + x2)) (u_16.2.2.1 0 (Int32.toNatClampNeg (((8 + (42 * x1)) + 2) + x3)))) (Int32.toNatClampNeg (((8 + (42 * x1)) + 2) + x3)) (u_16.2.2.1 0 (Int32.toNatClampNeg (((8 + (42 * x1)) + 2) + x2))))), u_16.2.2.2) := ⟨p100677, p100678, p100679, p100680, (rw_irr (rw_irr q100667.2.2.2.2.1 (by rw [tn_i]; unfold rw_rel; omega)) (by rw [tn_i]; unfold rw_rel; omega)), q100667.2.2.2.2.2.1, q100667.2.2.2.2.2.2.1, q100667.2.2.2.2.2.2.2⟩
          have p100682 : 496 ≤ (496 : Int32).toInt ∧ (496 : Int32).toInt ≤ 6896 := by (have := li_496; omega)
          obtain ⟨f100683, g100684⟩ := fu_e 7000
          have p100685 : 6896 - (496 : Int32).toInt < (f100683 : Int) := by (have := li_496; omega)
          refine ⟨f100683, wq_X7_exchange_L109 (fun t0 z1 z2 z3 z4 w5 z7 q100686 q100687 => ?_) f100683 _ _ _ _ _ _ _ B100681 p100682 p100685⟩
          have := q100686.1
          have := q100686.2.1
          exact k _ _ q100686
        · replace c100665 := q_eq c100665
          exact k _ _ h100647
theorem wq_X7_cell {post : Int32 → Prop} {s0 : Md} {x1 : Int32} {x2 : Int32} {N R W D : Int} (h100688 : mb (N) (R) (W) (D) s0) (h100689 : R ≤ 0 ∨ 0 < D) (k : ∀ (r : Int32), post r) : wp_X7_cell post s0 x1 x2 := by
  unfold wp_X7_cell
  have := h100688.1
  have := h100688.2.1
  have := h100688.2.2.1
  have := h100688.2.2.2.1
  refine wq_X7_isCell h100688 (fun r_1 q100690 => ?_)
  refine ⟨fun c100691 => ?_, fun c100692 => ?_⟩
  · replace c100691 := q_neq c100691
    rw [li_0] at c100691
    refine ⟨fun c100693 => ?_, fun c100694 => ?_⟩
    · replace c100693 := q_eq c100693
      rw [li_0] at c100693
      have p100695 : 0 ≤ (x1).toInt ∧ (x1).toInt < 40 := by omega
      have p100696 : 0 ≤ (x2).toInt ∧ (x2).toInt ≤ 7 := by omega
      refine wq_X7_of_g h100688 p100695 p100696 (fun r_5 => ?_)
      exact k _
    · replace c100694 := q_neq c100694
      rw [li_0] at c100694
      refine ⟨fun c100697 => ?_, fun c100698 => ?_⟩
      · replace c100697 := q_eq c100697
        rw [li_1] at c100697
        have p100699 : 0 ≤ (x1).toInt ∧ (x1).toInt < 40 := by omega
        have p100700 : 0 ≤ (x2).toInt ∧ (x2).toInt ≤ 7 := by omega
        refine wq_X7_of_g h100688 p100699 p100700 (fun r_8 => ?_)
        exact k _
      · replace c100698 := q_neq c100698
        rw [li_1] at c100698
        refine ⟨fun c100701 => ?_, fun c100702 => ?_⟩
        · replace c100701 := q_eq c100701
          rw [li_2] at c100701
          have p100703 : 0 ≤ (x1).toInt ∧ (x1).toInt < 40 := by omega
          have p100704 : 0 ≤ (x2).toInt ∧ (x2).toInt ≤ 7 := by omega
          refine wq_X7_of_g h100688 p100703 p100704 (fun r_11 => ?_)
          exact k _
        · replace c100702 := q_neq c100702
          rw [li_2] at c100702
          refine ⟨fun c100705 => ?_, fun c100706 => ?_⟩
          · replace c100705 := q_eq c100705
            rw [li_3] at c100705
            have p100707 : 0 ≤ (x1).toInt ∧ (x1).toInt < 40 := by omega
            have p100708 : 0 ≤ (x2).toInt ∧ (x2).toInt ≤ 7 := by omega
            refine wq_X7_of_g h100688 p100707 p100708 (fun r_14 => ?_)
            exact k _
          · replace c100706 := q_neq c100706
            rw [li_3] at c100706
            refine ⟨fun c100709 => ?_, fun c100710 => ?_⟩
            · replace c100709 := q_eq c100709
              rw [li_4] at c100709
              have p100711 : 0 ≤ (x1).toInt ∧ (x1).toInt < 40 := by omega
              have p100712 : 0 < D := by omega
              refine wq_X7_leftOf h100688 p100711 p100712 (fun r_17 q100713 q100714 => ?_)
              exact k _
            · replace c100710 := q_neq c100710
              rw [li_4] at c100710
              refine ⟨fun c100715 => ?_, fun c100716 => ?_⟩
              · replace c100715 := q_eq c100715
                rw [li_5] at c100715
                have p100717 : 0 ≤ (x1).toInt ∧ (x1).toInt < 40 := by omega
                refine wq_X7_of_4 h100688 p100717 (fun r_20 q100718 q100719 => ?_)
                exact k _
              · replace c100716 := q_neq c100716
                rw [li_5] at c100716
                refine ⟨fun c100720 => ?_, fun c100721 => ?_⟩
                · replace c100720 := q_eq c100720
                  rw [li_6] at c100720
                  have p100722 : 0 ≤ (x1).toInt ∧ (x1).toInt < 40 := by omega
                  have p100723 : 0 ≤ ((5 : Int32)).toInt ∧ ((5 : Int32)).toInt ≤ 7 := by (have := li_5; omega)
                  refine wq_X7_of_g h100688 p100722 p100723 (fun r_23 => ?_)
                  exact k _
                · replace c100721 := q_neq c100721
                  rw [li_6] at c100721
                  refine ⟨fun c100724 => ?_, fun c100725 => ?_⟩
                  · replace c100724 := q_eq c100724
                    rw [li_7] at c100724
                    have p100726 : 0 ≤ (x1).toInt ∧ (x1).toInt < 40 := by omega
                    have p100727 : 0 ≤ ((6 : Int32)).toInt ∧ ((6 : Int32)).toInt ≤ 7 := by (have := li_6; omega)
                    refine wq_X7_of_g h100688 p100726 p100727 (fun r_26 => ?_)
                    exact k _
                  · replace c100725 := q_neq c100725
                    rw [li_7] at c100725
                    refine ⟨fun c100728 => ?_, fun c100729 => ?_⟩
                    · replace c100728 := q_eq c100728
                      rw [li_8] at c100728
                      have p100730 : 0 ≤ (x1).toInt ∧ (x1).toInt < 40 := by omega
                      refine wq_X7_wornOf p100730 (fun r_29 => ?_)
                      refine wq_X7_bits (fun r_31 => ?_)
                      exact k _
                    · replace c100729 := q_neq c100729
                      rw [li_8] at c100729
                      exact k _
  · replace c100692 := q_eq c100692
    rw [li_0] at c100692
    exact k _
theorem wq_X7_worn {post : Int64 → Prop} {s0 : Md} {x1 : Int32} {N R W D : Int} (h100731 : mb (N) (R) (W) (D) s0) (k : ∀ (r : Int64), post r) : wp_X7_worn post s0 x1 := by
  unfold wp_X7_worn
  have := h100731.1
  have := h100731.2.1
  have := h100731.2.2.1
  have := h100731.2.2.2.1
  refine wq_X7_isCell h100731 (fun r_1 q100732 => ?_)
  refine ⟨fun c100733 => ?_, fun c100734 => ?_⟩
  · replace c100733 := q_eq c100733
    rw [li_0] at c100733
    exact k _
  · replace c100734 := q_neq c100734
    rw [li_0] at c100734
    have p100735 : 0 ≤ (x1).toInt ∧ (x1).toInt < 40 := by omega
    refine wq_X7_wornOf p100735 (fun r_4 => ?_)
    exact k _
theorem wq_X7_cellsWith_L4 {s0 : Md} {post : Int32 → Prop} {e36 : Int32 → Int32 → Int32 → Prop} {N R W D : Int} (h100736 : mb (N) (R) (W) (D) s0) (ke36 : ∀ (z1 : Int32) (z2 : Int32) (z3 : Int32), 0 ≤ (z3).toInt ∧ (z3).toInt ≤ R * W → e36 z1 z2 z3) : ∀ (n : Nat) (z1 : Int32) (z2 : Int32) (z3 : Int32), 0 ≤ (z3).toInt ∧ (z3).toInt ≤ R * W → R * W - (z3).toInt < (n : Int) → wp_X7_cellsWith_L4 s0 post e36 n z1 z2 z3 := by
  have := h100736.1
  have := h100736.2.1
  have := h100736.2.2.1
  have := h100736.2.2.2.1
  intro n
  induction n with
  | zero =>
    intro z1 z2 z3 i100737 i100738
    exfalso
    omega
  | succ n ih =>
    intro z1 z2 z3 i100737 i100738
    unfold wp_X7_cellsWith_L4
    refine wq_X7_cells h100736 (fun r_1 q100739 => ?_)
    refine ⟨fun c100740 => ?_, fun c100741 => ?_⟩
    · replace c100740 := q_le c100740
      have p100742 : 0 ≤ (z3).toInt ∧ (z3).toInt ≤ R * W := by omega
      exact ke36 _ _ _ p100742
    · replace c100741 := q_nle c100741
      have p100743 : 0 ≤ (z3).toInt ∧ (z3).toInt < 40 := by omega
      refine wq_X7_of_0 h100736 p100743 (fun r_4 q100744 q100745 => ?_)
      refine ⟨fun c100746 => ?_, fun c100747 => ?_⟩
      · replace c100746 := q_neq c100746
        have e100748 := tq_addr li_1 z3
        try rw [Int.emod_eq_of_lt (show 0 ≤ (z3).toInt + 1 + 2147483648 by omega) (show (z3).toInt + 1 + 2147483648 < 4294967296 by omega)] at e100748
        have p100749 : 0 ≤ (z3 + 1).toInt ∧ (z3 + 1).toInt ≤ R * W := by omega
        have p100750 : R * W - (z3 + 1).toInt < ((n : Nat) : Int) := by (omega)
        exact ih _ _ _ p100749 p100750
      · replace c100747 := q_eq c100747
        have e100751 := tq_addr li_1 z3
        try rw [Int.emod_eq_of_lt (show 0 ≤ (z3).toInt + 1 + 2147483648 by omega) (show (z3).toInt + 1 + 2147483648 < 4294967296 by omega)] at e100751
        have p100752 : 0 ≤ (z3 + 1).toInt ∧ (z3 + 1).toInt ≤ R * W := by omega
        have p100753 : R * W - (z3 + 1).toInt < ((n : Nat) : Int) := by (omega)
        exact ih _ _ _ p100752 p100753
theorem wq_X7_cellsWith {post : Int32 → Prop} {s0 : Md} {x1 : Int32} {N R W D : Int} (h100754 : mb (N) (R) (W) (D) s0) (k : ∀ (r : Int32), post r) : wp_X7_cellsWith post s0 x1 := by
  unfold wp_X7_cellsWith
  have := h100754.1
  have := h100754.2.1
  have := h100754.2.2.1
  have := h100754.2.2.2.1
  have p100755 : 0 ≤ (0 : Int32).toInt ∧ (0 : Int32).toInt ≤ R * W := by (have := li_0; omega)
  obtain ⟨f100756, g100757⟩ := fu_e 50
  have p100758 : R * W - (0 : Int32).toInt < (f100756 : Int) := by (have := li_0; omega)
  refine ⟨f100756, wq_X7_cellsWith_L4 h100754 (fun z1 z2 z3 q100759 => ?_) f100756 _ _ _ p100755 p100758⟩
  exact k _
theorem wq_X7_manyWith_L5 {s0 : Md} {post : Int32 → Prop} {e40 : Int32 → Int32 → Int32 → Int32 → Prop} {N R W D : Int} (h100760 : mb (N) (R) (W) (D) s0) (ke40 : ∀ (z1 : Int32) (z2 : Int32) (z3 : Int32) (z4 : Int32), 0 ≤ (z1).toInt ∧ (z1).toInt < D → 0 ≤ (z4).toInt ∧ (z4).toInt ≤ 40 → e40 z1 z2 z3 z4) : ∀ (n : Nat) (z1 : Int32) (z2 : Int32) (z3 : Int32) (z4 : Int32), 0 ≤ (z1).toInt ∧ (z1).toInt < D → 0 ≤ (z4).toInt ∧ (z4).toInt ≤ 40 → 40 - (z4).toInt < (n : Int) → wp_X7_manyWith_L5 s0 post e40 n z1 z2 z3 z4 := by
  have := h100760.1
  have := h100760.2.1
  have := h100760.2.2.1
  have := h100760.2.2.2.1
  intro n
  induction n with
  | zero =>
    intro z1 z2 z3 z4 i100761 i100762 i100763
    exfalso
    omega
  | succ n ih =>
    intro z1 z2 z3 z4 i100761 i100762 i100763
    unfold wp_X7_manyWith_L5
    have p100764 : 0 ≤ (z1).toInt ∧ (z1).toInt < 4 := by omega
    refine wq_X7_flapsOf h100760 p100764 (fun r_1 q100765 => ?_)
    refine ⟨fun c100766 => ?_, fun c100767 => ?_⟩
    · replace c100766 := q_le c100766
      have p100768 : 0 ≤ (z1).toInt ∧ (z1).toInt < D := by omega
      have p100769 : 0 ≤ (z4).toInt ∧ (z4).toInt ≤ 40 := by omega
      exact ke40 _ _ _ _ p100768 p100769
    · replace c100767 := q_nle c100767
      have p100770 : 0 ≤ (z1).toInt ∧ (z1).toInt < 4 := by omega
      have p100771 : 0 ≤ (z4).toInt ∧ (z4).toInt < 40 := by omega
      refine wq_X7_signOf p100770 p100771 (fun r_4 => ?_)
      refine ⟨fun c100772 => ?_, fun c100773 => ?_⟩
      · replace c100772 := q_neq c100772
        have p100774 : 0 ≤ (z1).toInt ∧ (z1).toInt < D := by omega
        have e100775 := tq_addr li_1 z4
        try rw [Int.emod_eq_of_lt (show 0 ≤ (z4).toInt + 1 + 2147483648 by omega) (show (z4).toInt + 1 + 2147483648 < 4294967296 by omega)] at e100775
        have p100776 : 0 ≤ (z4 + 1).toInt ∧ (z4 + 1).toInt ≤ 40 := by omega
        have p100777 : 40 - (z4 + 1).toInt < ((n : Nat) : Int) := by (omega)
        exact ih _ _ _ _ p100774 p100776 p100777
      · replace c100773 := q_eq c100773
        have p100778 : 0 ≤ (z1).toInt ∧ (z1).toInt < D := by omega
        have e100779 := tq_addr li_1 z4
        try rw [Int.emod_eq_of_lt (show 0 ≤ (z4).toInt + 1 + 2147483648 by omega) (show (z4).toInt + 1 + 2147483648 < 4294967296 by omega)] at e100779
        have p100780 : 0 ≤ (z4 + 1).toInt ∧ (z4 + 1).toInt ≤ 40 := by omega
        have p100781 : 40 - (z4 + 1).toInt < ((n : Nat) : Int) := by (omega)
        exact ih _ _ _ _ p100778 p100780 p100781
theorem wq_X7_manyWith {post : Int32 → Prop} {s0 : Md} {x1 : Int32} {x2 : Int32} {N R W D : Int} (h100782 : mb (N) (R) (W) (D) s0) (h100783 : 0 ≤ (x1).toInt ∧ (x1).toInt < D) (k : ∀ (r : Int32), post r) : wp_X7_manyWith post s0 x1 x2 := by
  unfold wp_X7_manyWith
  have := h100782.1
  have := h100782.2.1
  have := h100782.2.2.1
  have := h100782.2.2.2.1
  have p100784 : 0 ≤ (x1).toInt ∧ (x1).toInt < D := by omega
  have p100785 : 0 ≤ (0 : Int32).toInt ∧ (0 : Int32).toInt ≤ 40 := by (have := li_0; omega)
  obtain ⟨f100786, g100787⟩ := fu_e 50
  have p100788 : 40 - (0 : Int32).toInt < (f100786 : Int) := by (have := li_0; omega)
  refine ⟨f100786, wq_X7_manyWith_L5 h100782 (fun z1 z2 z3 z4 q100789 q100790 => ?_) f100786 _ _ _ _ p100784 p100785 p100788⟩
  exact k _

theorem wq_X7_signsOf_L6 {s0 : Md} {post : Int32 → Prop} {e57 : Int32 → Int32 → Int32 → Int32 → Prop} {N R W D : Int} (h100791 : mb (N) (R) (W) (D) s0) (ke57 : ∀ (z1 : Int32) (z2 : Int32) (z3 : Int32) (z4 : Int32), 0 ≤ (z1).toInt ∧ (z1).toInt < D → 32 ≤ (z4).toInt ∧ (z4).toInt ≤ 127 → e57 z1 z2 z3 z4) : ∀ (n : Nat) (z1 : Int32) (z2 : Int32) (z3 : Int32) (z4 : Int32), 0 ≤ (z1).toInt ∧ (z1).toInt < D → 32 ≤ (z4).toInt ∧ (z4).toInt ≤ 127 → 127 - (z4).toInt < (n : Int) → wp_X7_signsOf_L6 s0 post e57 n z1 z2 z3 z4 := by
  have := h100791.1
  have := h100791.2.1
  have := h100791.2.2.1
  have := h100791.2.2.2.1
  intro n
  induction n with
  | zero =>
    intro z1 z2 z3 z4 i100792 i100793 i100794
    exfalso
    omega
  | succ n ih =>
    intro z1 z2 z3 z4 i100792 i100793 i100794
    unfold wp_X7_signsOf_L6
    refine ⟨fun c100795 => ?_, fun c100796 => ?_⟩
    · replace c100795 := q_le c100795
      rw [li_127] at c100795
      have p100797 : 0 ≤ (z1).toInt ∧ (z1).toInt < D := by omega
      have p100798 : 32 ≤ (z4).toInt ∧ (z4).toInt ≤ 127 := by omega
      exact ke57 _ _ _ _ p100797 p100798
    · replace c100796 := q_nle c100796
      rw [li_127] at c100796
      have p100799 : 0 ≤ (z1).toInt ∧ (z1).toInt < D := by omega
      refine wq_X7_manyWith h100791 p100799 (fun r_2 => ?_)
      refine ⟨fun c100800 => ?_, fun c100801 => ?_⟩
      · replace c100800 := q_neq c100800
        rw [li_0] at c100800
        refine ⟨fun c100802 => ?_, fun c100803 => ?_⟩
        · replace c100802 := q_le c100802
          have p100804 : 0 ≤ (z1).toInt ∧ (z1).toInt < D := by omega
          have e100805 := tq_addr li_1 z4
          try rw [Int.emod_eq_of_lt (show 0 ≤ (z4).toInt + 1 + 2147483648 by omega) (show (z4).toInt + 1 + 2147483648 < 4294967296 by omega)] at e100805
          have p100806 : 32 ≤ (z4 + 1).toInt ∧ (z4 + 1).toInt ≤ 127 := by omega
          have p100807 : 127 - (z4 + 1).toInt < ((n : Nat) : Int) := by (omega)
          exact ih _ _ _ _ p100804 p100806 p100807
        · replace c100803 := q_nle c100803
          have p100808 : 0 ≤ (z1).toInt ∧ (z1).toInt < D := by omega
          have e100809 := tq_addr li_1 z4
          try rw [Int.emod_eq_of_lt (show 0 ≤ (z4).toInt + 1 + 2147483648 by omega) (show (z4).toInt + 1 + 2147483648 < 4294967296 by omega)] at e100809
          have p100810 : 32 ≤ (z4 + 1).toInt ∧ (z4 + 1).toInt ≤ 127 := by omega
          have p100811 : 127 - (z4 + 1).toInt < ((n : Nat) : Int) := by (omega)
          exact ih _ _ _ _ p100808 p100810 p100811
      · replace c100801 := q_eq c100801
        rw [li_0] at c100801
        refine ⟨fun c100812 => ?_, fun c100813 => ?_⟩
        · replace c100812 := q_le c100812
          rw [li_0] at c100812
          have p100814 : 0 ≤ (z1).toInt ∧ (z1).toInt < D := by omega
          have e100815 := tq_addr li_1 z4
          try rw [Int.emod_eq_of_lt (show 0 ≤ (z4).toInt + 1 + 2147483648 by omega) (show (z4).toInt + 1 + 2147483648 < 4294967296 by omega)] at e100815
          have p100816 : 32 ≤ (z4 + 1).toInt ∧ (z4 + 1).toInt ≤ 127 := by omega
          have p100817 : 127 - (z4 + 1).toInt < ((n : Nat) : Int) := by (omega)
          exact ih _ _ _ _ p100814 p100816 p100817
        · replace c100813 := q_nle c100813
          rw [li_0] at c100813
          have p100818 : 0 ≤ (z1).toInt ∧ (z1).toInt < D := by omega
          have e100819 := tq_addr li_1 z4
          try rw [Int.emod_eq_of_lt (show 0 ≤ (z4).toInt + 1 + 2147483648 by omega) (show (z4).toInt + 1 + 2147483648 < 4294967296 by omega)] at e100819
          have p100820 : 32 ≤ (z4 + 1).toInt ∧ (z4 + 1).toInt ≤ 127 := by omega
          have p100821 : 127 - (z4 + 1).toInt < ((n : Nat) : Int) := by (omega)
          exact ih _ _ _ _ p100818 p100820 p100821
theorem wq_X7_signsOf {post : Int32 → Prop} {s0 : Md} {x1 : Int32} {x2 : Int32} {N R W D : Int} (h100822 : mb (N) (R) (W) (D) s0) (h100823 : 0 ≤ (x1).toInt ∧ (x1).toInt < D) (k : ∀ (r : Int32), post r) : wp_X7_signsOf post s0 x1 x2 := by
  unfold wp_X7_signsOf
  have := h100822.1
  have := h100822.2.1
  have := h100822.2.2.1
  have := h100822.2.2.2.1
  have p100824 : 0 ≤ (x1).toInt ∧ (x1).toInt < D := by omega
  have p100825 : 32 ≤ (32 : Int32).toInt ∧ (32 : Int32).toInt ≤ 127 := by (have := li_32; omega)
  obtain ⟨f100826, g100827⟩ := fu_e 200
  have p100828 : 127 - (32 : Int32).toInt < (f100826 : Int) := by (have := li_32; omega)
  refine ⟨f100826, wq_X7_signsOf_L6 h100822 (fun z1 z2 z3 z4 q100829 q100830 => ?_) f100826 _ _ _ _ p100824 p100825 p100828⟩
  exact k _
theorem wq_X7_drum {post : Int32 → Prop} {s0 : Md} {x1 : Int32} {x2 : Int32} {N R W D : Int} (h100831 : mb (N) (R) (W) (D) s0) (k : ∀ (r : Int32), post r) : wp_X7_drum post s0 x1 x2 := by
  unfold wp_X7_drum
  have := h100831.1
  have := h100831.2.1
  have := h100831.2.2.1
  have := h100831.2.2.2.1
  refine wq_X7_isDrum h100831 (fun r_1 q100832 => ?_)
  refine ⟨fun c100833 => ?_, fun c100834 => ?_⟩
  · replace c100833 := q_neq c100833
    rw [li_0] at c100833
    refine ⟨fun c100835 => ?_, fun c100836 => ?_⟩
    · replace c100835 := q_eq c100835
      rw [li_0] at c100835
      have p100837 : 0 ≤ (x1).toInt ∧ (x1).toInt < 4 := by omega
      refine wq_X7_currentOf p100837 (fun r_5 => ?_)
      exact k _
    · replace c100836 := q_neq c100836
      rw [li_0] at c100836
      refine ⟨fun c100838 => ?_, fun c100839 => ?_⟩
      · replace c100838 := q_eq c100838
        rw [li_1] at c100838
        have p100840 : 0 ≤ (x1).toInt ∧ (x1).toInt < 4 := by omega
        refine wq_X7_flapsOf h100831 p100840 (fun r_8 q100841 => ?_)
        exact k _
      · replace c100839 := q_neq c100839
        rw [li_1] at c100839
        refine ⟨fun c100842 => ?_, fun c100843 => ?_⟩
        · replace c100842 := q_eq c100842
          rw [li_2] at c100842
          refine wq_X7_cellsWith h100831 (fun r_11 => ?_)
          exact k _
        · replace c100843 := q_neq c100843
          rw [li_2] at c100843
          refine ⟨fun c100844 => ?_, fun c100845 => ?_⟩
          · replace c100844 := q_eq c100844
            rw [li_3] at c100844
            have p100846 : 0 ≤ (x1).toInt ∧ (x1).toInt < D := by omega
            refine wq_X7_signsOf h100831 p100846 (fun r_14 => ?_)
            exact k _
          · replace c100845 := q_neq c100845
            rw [li_3] at c100845
            refine ⟨fun c100847 => ?_, fun c100848 => ?_⟩
            · replace c100847 := q_eq c100847
              rw [li_4] at c100847
              have p100849 : 0 ≤ (x1).toInt ∧ (x1).toInt < D := by omega
              refine wq_X7_signsOf h100831 p100849 (fun r_17 => ?_)
              exact k _
            · replace c100848 := q_neq c100848
              rw [li_4] at c100848
              exact k _
  · replace c100834 := q_eq c100834
    rw [li_0] at c100834
    exact k _
theorem wq_X7_sign {post : Int32 → Prop} {s0 : Md} {x1 : Int32} {x2 : Int32} {N R W D : Int} (h100850 : mb (N) (R) (W) (D) s0) (k : ∀ (r : Int32), post r) : wp_X7_sign post s0 x1 x2 := by
  unfold wp_X7_sign
  have := h100850.1
  have := h100850.2.1
  have := h100850.2.2.1
  have := h100850.2.2.2.1
  refine wq_X7_isDrum h100850 (fun r_1 q100851 => ?_)
  refine ⟨fun c100852 => ?_, fun c100853 => ?_⟩
  · replace c100852 := q_eq c100852
    rw [li_0] at c100852
    exact k _
  · replace c100853 := q_neq c100853
    rw [li_0] at c100853
    have p100854 : 0 ≤ (x1).toInt ∧ (x1).toInt < 4 := by omega
    refine wq_X7_flapsOf h100850 p100854 (fun r_4 q100855 => ?_)
    refine wq_X7_in (fun r_6 q100856 => ?_)
    try simp only [lj_0] at q100856
    have := tq_64 x2
    have e100857 := tq_subr li_1 r_4
    try rw [Int.emod_eq_of_lt (show 0 ≤ (r_4).toInt - 1 + 2147483648 by omega) (show (r_4).toInt - 1 + 2147483648 < 4294967296 by omega)] at e100857
    have := tq_64 (r_4 - 1)
    refine ⟨fun c100858 => ?_, fun c100859 => ?_⟩
    · replace c100858 := q_eq c100858
      rw [li_0] at c100858
      exact k _
    · replace c100859 := q_neq c100859
      rw [li_0] at c100859
      have p100860 : 0 ≤ (x1).toInt ∧ (x1).toInt < 4 := by omega
      have p100861 : 0 ≤ (x2).toInt ∧ (x2).toInt < 40 := by omega
      refine wq_X7_signOf p100860 p100861 (fun r_9 => ?_)
      exact k _
theorem wq_X7_signAt {post : Int32 → Prop} {s0 : Md} {x1 : Int32} {x2 : Int32} {N R W D : Int} (h100862 : mb (N) (R) (W) (D) s0) (h100863 : 0 ≤ (x1).toInt ∧ (x1).toInt < 40) (h100864 : 0 < D) (h100865 : 0 ≤ (x2).toInt ∧ (x2).toInt ≤ 2) (k : ∀ (r : Int32), post r) : wp_X7_signAt post s0 x1 x2 := by
  unfold wp_X7_signAt
  have := h100862.1
  have := h100862.2.1
  have := h100862.2.2.1
  have := h100862.2.2.2.1
  have p100866 : 0 ≤ (x1).toInt ∧ (x1).toInt < 40 := by omega
  refine wq_X7_of_0 h100862 p100866 (fun r_1 q100867 q100868 => ?_)
  have p100869 : 0 ≤ (x1).toInt ∧ (x1).toInt < 40 := by omega
  have p100870 : 0 < D := by omega
  have e100871 := tq_addc li_1 x2
  try rw [Int.emod_eq_of_lt (show 0 ≤ 1 + (x2).toInt + 2147483648 by omega) (show 1 + (x2).toInt + 2147483648 < 4294967296 by omega)] at e100871
  have p100872 : 1 ≤ (1 + x2).toInt ∧ (1 + x2).toInt ≤ 3 := by omega
  refine wq_X7_of_w h100862 p100869 p100870 p100872 (fun r_3 q100873 => ?_)
  have p100874 : 0 ≤ (r_1).toInt ∧ (r_1).toInt < 4 := by omega
  have p100875 : 0 ≤ (r_3).toInt ∧ (r_3).toInt < 40 := by omega
  refine wq_X7_signOf p100874 p100875 (fun r_5 => ?_)
  exact k _
theorem wq_X7_at {post : Int32 → Prop} {s0 : Md} {x1 : Int32} {x2 : Int32} {x3 : Int32} {N R W D : Int} (h100876 : mb (N) (R) (W) (D) s0) (h100877 : R ≤ 0 ∨ 0 < D) (k : ∀ (r : Int32), post r) : wp_X7_at post s0 x1 x2 x3 := by
  unfold wp_X7_at
  have := h100876.1
  have := h100876.2.1
  have := h100876.2.2.1
  have := h100876.2.2.2.1
  refine wq_X7_isRow h100876 (fun r_1 q100878 => ?_)
  refine ⟨fun c100879 => ?_, fun c100880 => ?_⟩
  · replace c100879 := q_eq c100879
    rw [li_0] at c100879
    exact k _
  · replace c100880 := q_neq c100880
    rw [li_0] at c100880
    refine wq_X7_wide h100876 (fun r_4 q100881 => ?_)
    refine wq_X7_in (fun r_6 q100882 => ?_)
    try simp only [lj_0] at q100882
    have := tq_64 x2
    have e100883 := tq_subr li_1 r_4
    try rw [Int.emod_eq_of_lt (show 0 ≤ (r_4).toInt - 1 + 2147483648 by omega) (show (r_4).toInt - 1 + 2147483648 < 4294967296 by omega)] at e100883
    have := tq_64 (r_4 - 1)
    refine ⟨fun c100884 => ?_, fun c100885 => ?_⟩
    · replace c100884 := q_eq c100884
      rw [li_0] at c100884
      exact k _
    · replace c100885 := q_neq c100885
      rw [li_0] at c100885
      refine wq_X7_in (fun r_9 q100886 => ?_)
      try simp only [lj_0, lj_2] at q100886
      have := tq_64 x3
      refine ⟨fun c100887 => ?_, fun c100888 => ?_⟩
      · replace c100887 := q_eq c100887
        rw [li_0] at c100887
        exact k _
      · replace c100888 := q_neq c100888
        rw [li_0] at c100888
        refine wq_X7_wide h100876 (fun r_12 q100889 => ?_)
        have := rw_r (a := x1) (b := r_12) (R := R) (W := W) (by omega) (by omega) (by omega)
        have e100890 := tq_add (r_12 * x1) x2
        try rw [Int.emod_eq_of_lt (show 0 ≤ (r_12 * x1).toInt + (x2).toInt + 2147483648 by omega) (show (r_12 * x1).toInt + (x2).toInt + 2147483648 < 4294967296 by omega)] at e100890
        have p100891 : 0 ≤ ((r_12 * x1) + x2).toInt ∧ ((r_12 * x1) + x2).toInt < 40 := by omega
        have p100892 : 0 < D := by omega
        have p100893 : 0 ≤ (x3).toInt ∧ (x3).toInt ≤ 2 := by omega
        refine wq_X7_signAt h100876 p100891 p100892 p100893 (fun r_14 => ?_)
        exact k _
theorem wq_X7_isOther {post : Int32 → Prop} {s0 : Md} {x1 : Int32} {N R W D : Int} (h100894 : mb (N) (R) (W) (D) s0) (h100895 : 0 ≤ (x1).toInt ∧ (x1).toInt < 40) (h100896 : 0 < D) (k : ∀ (r : Int32), (r).toInt = 0 ∨ (r).toInt = 1 → post r) : wp_X7_isOther post s0 x1 := by
  unfold wp_X7_isOther
  have := h100894.1
  have := h100894.2.1
  have := h100894.2.2.1
  have := h100894.2.2.2.1
  have p100897 : 0 ≤ (x1).toInt ∧ (x1).toInt < 40 := by omega
  have p100898 : 0 < D := by omega
  have p100899 : 0 ≤ ((0 : Int32)).toInt ∧ ((0 : Int32)).toInt ≤ 2 := by (have := li_0; omega)
  refine wq_X7_signAt h100894 p100897 p100898 p100899 (fun r_1 => ?_)
  have p100900 : 0 ≤ (x1).toInt ∧ (x1).toInt < 40 := by omega
  have p100901 : 0 < D := by omega
  have p100902 : 0 ≤ ((2 : Int32)).toInt ∧ ((2 : Int32)).toInt ≤ 2 := by (have := li_2; omega)
  refine wq_X7_signAt h100894 p100900 p100901 p100902 (fun r_3 => ?_)
  refine ⟨fun c100903 => ?_, fun c100904 => ?_⟩
  · replace c100903 := q_eq c100903
    have p100905 : (0 : Int32).toInt = 0 ∨ (0 : Int32).toInt = 1 := by (have := li_0; omega)
    exact k _ p100905
  · replace c100904 := q_neq c100904
    have p100906 : (1 : Int32).toInt = 0 ∨ (1 : Int32).toInt = 1 := by (have := li_1; omega)
    exact k _ p100906
theorem wq_X7_isSuch {post : Int32 → Prop} {s0 : Md} {x1 : Int32} {x2 : Int32} {N R W D : Int} (h100907 : mb (N) (R) (W) (D) s0) (h100908 : 0 ≤ (x1).toInt ∧ (x1).toInt < 40) (h100909 : 0 < D) (k : ∀ (r : Int32), (r).toInt = 0 ∨ (r).toInt = 1 → post r) : wp_X7_isSuch post s0 x1 x2 := by
  unfold wp_X7_isSuch
  have := h100907.1
  have := h100907.2.1
  have := h100907.2.2.1
  have := h100907.2.2.2.1
  refine ⟨fun c100910 => ?_, fun c100911 => ?_⟩
  · replace c100910 := q_eq c100910
    rw [li_0] at c100910
    have p100912 : 0 ≤ (x1).toInt ∧ (x1).toInt < 40 := by omega
    have p100913 : 0 < D := by omega
    refine wq_X7_leftOf h100907 p100912 p100913 (fun r_2 q100914 q100915 => ?_)
    refine ⟨fun c100916 => ?_, fun c100917 => ?_⟩
    · replace c100916 := q_le c100916
      rw [li_0] at c100916
      have p100918 : (0 : Int32).toInt = 0 ∨ (0 : Int32).toInt = 1 := by (have := li_0; omega)
      exact k _ p100918
    · replace c100917 := q_nle c100917
      rw [li_0] at c100917
      have p100919 : (1 : Int32).toInt = 0 ∨ (1 : Int32).toInt = 1 := by (have := li_1; omega)
      exact k _ p100919
  · replace c100911 := q_neq c100911
    rw [li_0] at c100911
    refine ⟨fun c100920 => ?_, fun c100921 => ?_⟩
    · replace c100920 := q_eq c100920
      rw [li_1] at c100920
      have p100922 : 0 ≤ (x1).toInt ∧ (x1).toInt < 40 := by omega
      refine wq_X7_of_1 h100907 p100922 (fun r_6 q100923 q100924 => ?_)
      have p100925 : 0 ≤ (x1).toInt ∧ (x1).toInt < 40 := by omega
      refine wq_X7_of_2 h100907 p100925 (fun r_8 q100926 q100927 => ?_)
      refine ⟨fun c100928 => ?_, fun c100929 => ?_⟩
      · replace c100928 := q_eq c100928
        have p100930 : (0 : Int32).toInt = 0 ∨ (0 : Int32).toInt = 1 := by (have := li_0; omega)
        exact k _ p100930
      · replace c100929 := q_neq c100929
        have p100931 : (1 : Int32).toInt = 0 ∨ (1 : Int32).toInt = 1 := by (have := li_1; omega)
        exact k _ p100931
    · replace c100921 := q_neq c100921
      rw [li_1] at c100921
      refine ⟨fun c100932 => ?_, fun c100933 => ?_⟩
      · replace c100932 := q_eq c100932
        rw [li_2] at c100932
        have p100934 : 0 ≤ (x1).toInt ∧ (x1).toInt < 40 := by omega
        have p100935 : 0 < D := by omega
        refine wq_X7_isOther h100907 p100934 p100935 (fun r_12 q100936 => ?_)
        refine ⟨(nb_b (by omega)), ?_⟩
        have p100937 : (r_12).toInt = 0 ∨ (r_12).toInt = 1 := by omega
        exact k _ p100937
      · replace c100933 := q_neq c100933
        rw [li_2] at c100933
        refine ⟨fun c100938 => ?_, fun c100939 => ?_⟩
        · replace c100938 := q_eq c100938
          rw [li_3] at c100938
          refine wq_X7_isIn (fun r_16 q100940 => ?_)
          refine ⟨(nb_b (by omega)), ?_⟩
          have p100941 : (r_16).toInt = 0 ∨ (r_16).toInt = 1 := by omega
          exact k _ p100941
        · replace c100939 := q_neq c100939
          rw [li_3] at c100939
          have p100942 : 0 ≤ (x1).toInt ∧ (x1).toInt < 40 := by omega
          refine wq_X7_current h100907 p100942 (fun r_19 => ?_)
          refine ⟨fun c100943 => ?_, fun c100944 => ?_⟩
          · have p100945 : (0 : Int32).toInt = 0 ∨ (0 : Int32).toInt = 1 := by (have := li_0; omega)
            exact k _ p100945
          · have p100946 : (1 : Int32).toInt = 0 ∨ (1 : Int32).toInt = 1 := by (have := li_1; omega)
            exact k _ p100946
theorem wq_X7_which_L32 {post : Int64 → Md → Prop} {e64 : Md → Int32 → Int64 → Int32 → Prop} {D N R W : Int} (h100947 : 0 < D) (ke64 : ∀ (t0 : Md) (z1 : Int32) (w2 : Int64) (z4 : Int32), mb (N) (R) (W) (D) t0 → 0 ≤ (z4).toInt ∧ (z4).toInt ≤ R * W → e64 t0 z1 w2 z4) : ∀ (n : Nat) (t0 : Md) (z1 : Int32) (w2 : Int64) (z4 : Int32), mb (N) (R) (W) (D) t0 → 0 ≤ (z4).toInt ∧ (z4).toInt ≤ R * W → R * W - (z4).toInt < (n : Int) → wp_X7_which_L32 post e64 n t0 z1 w2 z4 := by
  intro n
  induction n with
  | zero =>
    intro t0 z1 w2 z4 i100948 i100949 i100950
    have := i100948.1
    have := i100948.2.1
    have := i100948.2.2.1
    have := i100948.2.2.2.1
    exfalso
    omega
  | succ n ih =>
    intro t0 z1 w2 z4 i100948 i100949 i100950
    unfold wp_X7_which_L32
    have := i100948.1
    have := i100948.2.1
    have := i100948.2.2.1
    have := i100948.2.2.2.1
    refine wq_X7_cells i100948 (fun r_9 q100951 => ?_)
    refine ⟨fun c100952 => ?_, fun c100953 => ?_⟩
    · replace c100952 := q_le c100952
      have p100954 : 0 ≤ (z4).toInt ∧ (z4).toInt ≤ R * W := by omega
      exact ke64 _ _ _ _ i100948 p100954
    · replace c100953 := q_nle c100953
      have p100955 : 0 ≤ (z4).toInt ∧ (z4).toInt < 40 := by omega
      have p100956 : 0 < D := by omega
      refine wq_X7_isSuch i100948 p100955 p100956 (fun r_12 q100957 => ?_)
      refine ⟨fun c100958 => ?_, fun c100959 => ?_⟩
      · replace c100958 := q_eq c100958
        rw [li_0] at c100958
        have e100960 := tq_addr li_1 z4
        try rw [Int.emod_eq_of_lt (show 0 ≤ (z4).toInt + 1 + 2147483648 by omega) (show (z4).toInt + 1 + 2147483648 < 4294967296 by omega)] at e100960
        have p100961 : 0 ≤ (z4 + 1).toInt ∧ (z4 + 1).toInt ≤ R * W := by omega
        have p100962 : R * W - (z4 + 1).toInt < ((n : Nat) : Int) := by (omega)
        exact ih _ _ _ _ i100948 p100961 p100962
      · replace c100959 := q_neq c100959
        rw [li_0] at c100959
        have e100963 := tq_addr li_1 z4
        try rw [Int.emod_eq_of_lt (show 0 ≤ (z4).toInt + 1 + 2147483648 by omega) (show (z4).toInt + 1 + 2147483648 < 4294967296 by omega)] at e100963
        have p100964 : 0 ≤ (z4 + 1).toInt ∧ (z4 + 1).toInt ≤ R * W := by omega
        have p100965 : R * W - (z4 + 1).toInt < ((n : Nat) : Int) := by (omega)
        exact ih _ _ _ _ i100948 p100964 p100965
theorem wq_X7_which {post : Int64 → Md → Prop} {s0 : Md} {x1 : Int32} {N R W D : Int} (h100966 : mb (N) (R) (W) (D) s0) (h100967 : R ≤ 0 ∨ 0 < D) (k : ∀ (r : Int64) (u : Md), mb (N) (R) (W) (D) u → post r u) : wp_X7_which post s0 x1 := by
  unfold wp_X7_which
  have := h100966.1
  have := h100966.2.1
  have := h100966.2.2.1
  have := h100966.2.2.2.1
  refine wq_X7_isBoard h100966 (fun r_1 q100968 => ?_)
  refine ⟨fun c100969 => ?_, fun c100970 => ?_⟩
  · replace c100969 := q_eq c100969
    rw [li_0] at c100969
    exact k _ _ h100966
  · replace c100970 := q_neq c100970
    rw [li_0] at c100970
    refine wq_X7_in (fun r_4 q100971 => ?_)
    try simp only [lj_0, lj_4] at q100971
    have := tq_64 x1
    refine ⟨fun c100972 => ?_, fun c100973 => ?_⟩
    · replace c100972 := q_neq c100972
      rw [li_0] at c100972
      have p100974 : 0 < D := by omega
      refine wq_X7_findsTurningB h100966 p100974 (fun u_8 q100975 q100976 q100977 => ?_)
      have := q100975.1
      have := q100975.2.1
      have p100978 : 0 < D := by omega
      have p100979 : 0 ≤ (0 : Int32).toInt ∧ (0 : Int32).toInt ≤ R * W := by (have := li_0; omega)
      obtain ⟨f100980, g100981⟩ := fu_e 50
      have p100982 : R * W - (0 : Int32).toInt < (f100980 : Int) := by (have := li_0; omega)
      refine ⟨f100980, wq_X7_which_L32 p100978 (fun t0 z1 w2 z4 q100983 q100984 => ?_) f100980 _ _ _ _ q100975 p100979 p100982⟩
      have := q100983.1
      have := q100983.2.1
      exact k _ _ q100983
    · replace c100973 := q_eq c100973
      rw [li_0] at c100973
      exact k _ _ h100966

theorem wq_X7_left_L31 {s0 : Md} {post : Int32 → Prop} {e90 : Int32 → Int32 → Int32 → Int32 → Int32 → Prop} {N R W D : Int} (h100985 : mb (N) (R) (W) (D) s0) (h100986 : 0 < D) (ke90 : ∀ (z1 : Int32) (z2 : Int32) (z3 : Int32) (z4 : Int32) (z5 : Int32), 0 ≤ (z5).toInt ∧ (z5).toInt ≤ R * W → e90 z1 z2 z3 z4 z5) : ∀ (n : Nat) (z1 : Int32) (z2 : Int32) (z3 : Int32) (z4 : Int32) (z5 : Int32), 0 ≤ (z5).toInt ∧ (z5).toInt ≤ R * W → R * W - (z5).toInt < (n : Int) → wp_X7_left_L31 s0 post e90 n z1 z2 z3 z4 z5 := by
  have := h100985.1
  have := h100985.2.1
  have := h100985.2.2.1
  have := h100985.2.2.2.1
  intro n
  induction n with
  | zero =>
    intro z1 z2 z3 z4 z5 i100987 i100988
    exfalso
    omega
  | succ n ih =>
    intro z1 z2 z3 z4 z5 i100987 i100988
    unfold wp_X7_left_L31
    refine wq_X7_cells h100985 (fun r_7 q100989 => ?_)
    refine ⟨fun c100990 => ?_, fun c100991 => ?_⟩
    · replace c100990 := q_le c100990
      have p100992 : 0 ≤ (z5).toInt ∧ (z5).toInt ≤ R * W := by omega
      exact ke90 _ _ _ _ _ p100992
    · replace c100991 := q_nle c100991
      have p100993 : 0 ≤ (z5).toInt ∧ (z5).toInt < 40 := by omega
      have p100994 : 0 < D := by omega
      refine wq_X7_leftOf h100985 p100993 p100994 (fun r_10 q100995 q100996 => ?_)
      have p100997 : 0 ≤ (z5).toInt ∧ (z5).toInt < 40 := by omega
      have p100998 : 0 < D := by omega
      refine wq_X7_leftOf h100985 p100997 p100998 (fun r_12 q100999 q101000 => ?_)
      have p101001 : 0 ≤ (z5).toInt ∧ (z5).toInt < 40 := by omega
      refine wq_X7_current h100985 p101001 (fun r_14 => ?_)
      have p101002 : 0 ≤ (z5).toInt ∧ (z5).toInt < 40 := by omega
      have p101003 : 0 < D := by omega
      refine wq_X7_leftOf h100985 p101002 p101003 (fun r_16 q101004 q101005 => ?_)
      refine ⟨fun c101006 => ?_, fun c101007 => ?_⟩
      · replace c101006 := q_le c101006
        have e101008 := tq_addr li_1 z5
        try rw [Int.emod_eq_of_lt (show 0 ≤ (z5).toInt + 1 + 2147483648 by omega) (show (z5).toInt + 1 + 2147483648 < 4294967296 by omega)] at e101008
        have p101009 : 0 ≤ (z5 + 1).toInt ∧ (z5 + 1).toInt ≤ R * W := by omega
        have p101010 : R * W - (z5 + 1).toInt < ((n : Nat) : Int) := by (omega)
        exact ih _ _ _ _ _ p101009 p101010
      · replace c101007 := q_nle c101007
        have p101011 : 0 ≤ (z5).toInt ∧ (z5).toInt < 40 := by omega
        have p101012 : 0 < D := by omega
        refine wq_X7_leftOf h100985 p101011 p101012 (fun r_19 q101013 q101014 => ?_)
        have e101015 := tq_addr li_1 z5
        try rw [Int.emod_eq_of_lt (show 0 ≤ (z5).toInt + 1 + 2147483648 by omega) (show (z5).toInt + 1 + 2147483648 < 4294967296 by omega)] at e101015
        have p101016 : 0 ≤ (z5 + 1).toInt ∧ (z5 + 1).toInt ≤ R * W := by omega
        have p101017 : R * W - (z5 + 1).toInt < ((n : Nat) : Int) := by (omega)
        exact ih _ _ _ _ _ p101016 p101017
theorem wq_X7_left {post : Int32 → Prop} {s0 : Md} {x1 : Int32} {N R W D : Int} (h101018 : mb (N) (R) (W) (D) s0) (k : ∀ (r : Int32), post r) : wp_X7_left post s0 x1 := by
  unfold wp_X7_left
  have := h101018.1
  have := h101018.2.1
  have := h101018.2.2.1
  have := h101018.2.2.2.1
  refine wq_X7_isBoard h101018 (fun r_1 q101019 => ?_)
  refine ⟨fun c101020 => ?_, fun c101021 => ?_⟩
  · replace c101020 := q_eq c101020
    rw [li_0] at c101020
    exact k _
  · replace c101021 := q_neq c101021
    rw [li_0] at c101021
    refine wq_X7_in (fun r_4 q101022 => ?_)
    try simp only [lj_0, lj_3] at q101022
    have := tq_64 x1
    refine ⟨fun c101023 => ?_, fun c101024 => ?_⟩
    · replace c101023 := q_neq c101023
      rw [li_0] at c101023
      have p101025 : 0 < D := by omega
      have p101026 : 0 ≤ (0 : Int32).toInt ∧ (0 : Int32).toInt ≤ R * W := by (have := li_0; omega)
      obtain ⟨f101027, g101028⟩ := fu_e 50
      have p101029 : R * W - (0 : Int32).toInt < (f101027 : Int) := by (have := li_0; omega)
      refine ⟨f101027, wq_X7_left_L31 h101018 p101025 (fun z1 z2 z3 z4 z5 q101030 => ?_) f101027 _ _ _ _ _ p101026 p101029⟩
      refine ⟨(n64_l h101018 (by omega)), ?_⟩
      refine ⟨fun c101031 => ?_, fun c101032 => ?_⟩
      · replace c101031 := q_neq c101031
        rw [li_0] at c101031
        refine ⟨fun c101033 => ?_, fun c101034 => ?_⟩
        · replace c101033 := q_neq c101033
          rw [li_1] at c101033
          refine ⟨fun c101035 => ?_, fun c101036 => ?_⟩
          · replace c101035 := q_neq c101035
            rw [li_2] at c101035
            refine ⟨fun c101037 => ?_, fun c101038 => ?_⟩
            · replace c101037 := q_le c101037
              have e101039 := tq_32 ((((Int32.toInt64 z4) + (s0.2.2.1 0 (Int32.toNatClampNeg 2))) - 1) / (s0.2.2.1 0 (Int32.toNatClampNeg 2)))
              try rw [Int.emod_eq_of_lt (show 0 ≤ ((((Int32.toInt64 z4) + (s0.2.2.1 0 (Int32.toNatClampNeg 2))) - 1) / (s0.2.2.1 0 (Int32.toNatClampNeg 2))).toInt + 2147483648 by omega) (show ((((Int32.toInt64 z4) + (s0.2.2.1 0 (Int32.toNatClampNeg 2))) - 1) / (s0.2.2.1 0 (Int32.toNatClampNeg 2))).toInt + 2147483648 < 4294967296 by omega)] at e101039
              exact k _
            · replace c101038 := q_nle c101038
              have e101040 := tq_32 ((((Int32.toInt64 z4) + (s0.2.2.1 0 (Int32.toNatClampNeg 2))) - 1) / (s0.2.2.1 0 (Int32.toNatClampNeg 2)))
              try rw [Int.emod_eq_of_lt (show 0 ≤ ((((Int32.toInt64 z4) + (s0.2.2.1 0 (Int32.toNatClampNeg 2))) - 1) / (s0.2.2.1 0 (Int32.toNatClampNeg 2))).toInt + 2147483648 by omega) (show ((((Int32.toInt64 z4) + (s0.2.2.1 0 (Int32.toNatClampNeg 2))) - 1) / (s0.2.2.1 0 (Int32.toNatClampNeg 2))).toInt + 2147483648 < 4294967296 by omega)] at e101040
              exact k _
          · replace c101036 := q_eq c101036
            rw [li_2] at c101036
            exact k _
        · replace c101034 := q_eq c101034
          rw [li_1] at c101034
          exact k _
      · replace c101032 := q_eq c101032
        rw [li_0] at c101032
        exact k _
    · replace c101024 := q_eq c101024
      rw [li_0] at c101024
      exact k _
theorem wq_X7_others_L4 {s0 : Md} {post : Int32 → Prop} {e34 : Int32 → Int32 → Prop} {N R W D : Int} (h101041 : mb (N) (R) (W) (D) s0) (h101042 : 0 < D) (ke34 : ∀ (z1 : Int32) (z2 : Int32), 0 ≤ (z2).toInt ∧ (z2).toInt ≤ R * W → e34 z1 z2) : ∀ (n : Nat) (z1 : Int32) (z2 : Int32), 0 ≤ (z2).toInt ∧ (z2).toInt ≤ R * W → R * W - (z2).toInt < (n : Int) → wp_X7_others_L4 s0 post e34 n z1 z2 := by
  have := h101041.1
  have := h101041.2.1
  have := h101041.2.2.1
  have := h101041.2.2.2.1
  intro n
  induction n with
  | zero =>
    intro z1 z2 i101043 i101044
    exfalso
    omega
  | succ n ih =>
    intro z1 z2 i101043 i101044
    unfold wp_X7_others_L4
    refine wq_X7_cells h101041 (fun r_1 q101045 => ?_)
    refine ⟨fun c101046 => ?_, fun c101047 => ?_⟩
    · replace c101046 := q_le c101046
      have p101048 : 0 ≤ (z2).toInt ∧ (z2).toInt ≤ R * W := by omega
      exact ke34 _ _ p101048
    · replace c101047 := q_nle c101047
      have p101049 : 0 ≤ (z2).toInt ∧ (z2).toInt < 40 := by omega
      have p101050 : 0 < D := by omega
      refine wq_X7_isOther h101041 p101049 p101050 (fun r_4 q101051 => ?_)
      refine ⟨fun c101052 => ?_, fun c101053 => ?_⟩
      · replace c101052 := q_eq c101052
        rw [li_0] at c101052
        have e101054 := tq_addr li_1 z2
        try rw [Int.emod_eq_of_lt (show 0 ≤ (z2).toInt + 1 + 2147483648 by omega) (show (z2).toInt + 1 + 2147483648 < 4294967296 by omega)] at e101054
        have p101055 : 0 ≤ (z2 + 1).toInt ∧ (z2 + 1).toInt ≤ R * W := by omega
        have p101056 : R * W - (z2 + 1).toInt < ((n : Nat) : Int) := by (omega)
        exact ih _ _ p101055 p101056
      · replace c101053 := q_neq c101053
        rw [li_0] at c101053
        have e101057 := tq_addr li_1 z2
        try rw [Int.emod_eq_of_lt (show 0 ≤ (z2).toInt + 1 + 2147483648 by omega) (show (z2).toInt + 1 + 2147483648 < 4294967296 by omega)] at e101057
        have p101058 : 0 ≤ (z2 + 1).toInt ∧ (z2 + 1).toInt ≤ R * W := by omega
        have p101059 : R * W - (z2 + 1).toInt < ((n : Nat) : Int) := by (omega)
        exact ih _ _ p101058 p101059
theorem wq_X7_others {post : Int32 → Prop} {s0 : Md} {N R W D : Int} (h101060 : mb (N) (R) (W) (D) s0) (h101061 : 0 < D) (k : ∀ (r : Int32), post r) : wp_X7_others post s0 := by
  unfold wp_X7_others
  have := h101060.1
  have := h101060.2.1
  have := h101060.2.2.1
  have := h101060.2.2.2.1
  have p101062 : 0 < D := by omega
  have p101063 : 0 ≤ (0 : Int32).toInt ∧ (0 : Int32).toInt ≤ R * W := by (have := li_0; omega)
  obtain ⟨f101064, g101065⟩ := fu_e 50
  have p101066 : R * W - (0 : Int32).toInt < (f101064 : Int) := by (have := li_0; omega)
  refine ⟨f101064, wq_X7_others_L4 h101060 p101062 (fun z1 z2 q101067 => ?_) f101064 _ _ p101063 p101066⟩
  exact k _
theorem wq_X7_when {post : Int32 → Md → Prop} {s0 : Md} {x1 : Int32} {N R W D : Int} (h101068 : mb (N) (R) (W) (D) s0) (h101069 : R ≤ 0 ∨ 0 < D) (k : ∀ (r : Int32) (u : Md) (R4 W4 D4 : Int), mb (N) (R4) (W4) (D4) u → R4 ≤ 0 ∨ 0 < D4 → post r u) : wp_X7_when post s0 x1 := by
  unfold wp_X7_when
  have := h101068.1
  have := h101068.2.1
  have := h101068.2.2.1
  have := h101068.2.2.2.1
  refine wq_X7_isBoard h101068 (fun r_1 q101070 => ?_)
  refine ⟨fun c101071 => ?_, fun c101072 => ?_⟩
  · replace c101071 := q_eq c101071
    rw [li_0] at c101071
    have p101073 : R ≤ 0 ∨ 0 < D := by omega
    exact k _ _ (R) (W) (D) h101068 p101073
  · replace c101072 := q_neq c101072
    rw [li_0] at c101072
    refine wq_X7_in (fun r_4 q101074 => ?_)
    try simp only [lj_0, lj_5] at q101074
    have := tq_64 x1
    refine ⟨fun c101075 => ?_, fun c101076 => ?_⟩
    · replace c101075 := q_neq c101075
      rw [li_0] at c101075
      have p101077 : R ≤ 0 ∨ 0 < D := by omega
      refine wq_X7_putsAside h101068 p101077 (fun u_8 q101078 q101079 q101080 => ?_)
      have := q101078.1
      have := q101078.2.1
      have p101081 : 0 < D := by omega
      try have := mu_b q101078.2.2.2.2.1 (show 0 < D by omega) 40 (by omega)
      obtain ⟨f101082, g101083⟩ := fu_e 5000
      have p101084 : mu_n ((u_8.2.2.1 0)) 40 < (f101082 : Int) := by (omega)
      refine ⟨f101082, wq_X7_when_L32 p101081 (fun t0 z1 z2 z3 z4 q101085 => ?_) f101082 _ _ _ _ _ q101078 p101084⟩
      have := q101085.1
      have := q101085.2.1
      have p101086 : 0 < D := by omega
      refine wq_X7_others q101085 p101086 (fun r_13 => ?_)
      refine wq_X7_takesBack q101085 (fun u_16 R4101087 W4101088 D4101089 q101090 q101091 q101092 => ?_)
      have := q101090.1
      have := q101090.2.1
      have := q101090.2.2.2.1
      refine ⟨fun c101093 => ?_, fun c101094 => ?_⟩
      · replace c101093 := q_eq c101093
        rw [li_0] at c101093
        have p101095 : R4101087 ≤ 0 ∨ 0 < D4101089 := by omega
        exact k _ _ (R4101087) (W4101088) (D4101089) q101090 p101095
      · replace c101094 := q_neq c101094
        rw [li_0] at c101094
        refine ⟨fun c101096 => ?_, fun c101097 => ?_⟩
        · replace c101096 := q_eq c101096
          rw [li_1] at c101096
          have p101098 : R4101087 ≤ 0 ∨ 0 < D4101089 := by omega
          exact k _ _ (R4101087) (W4101088) (D4101089) q101090 p101098
        · replace c101097 := q_neq c101097
          rw [li_1] at c101097
          refine ⟨fun c101099 => ?_, fun c101100 => ?_⟩
          · replace c101099 := q_eq c101099
            rw [li_2] at c101099
            have p101101 : R4101087 ≤ 0 ∨ 0 < D4101089 := by omega
            exact k _ _ (R4101087) (W4101088) (D4101089) q101090 p101101
          · replace c101100 := q_neq c101100
            rw [li_2] at c101100
            refine ⟨fun c101102 => ?_, fun c101103 => ?_⟩
            · replace c101102 := q_eq c101102
              rw [li_3] at c101102
              have p101104 : R4101087 ≤ 0 ∨ 0 < D4101089 := by omega
              exact k _ _ (R4101087) (W4101088) (D4101089) q101090 p101104
            · replace c101103 := q_neq c101103
              rw [li_3] at c101103
              refine ⟨fun c101105 => ?_, fun c101106 => ?_⟩
              · replace c101105 := q_eq c101105
                rw [li_4] at c101105
                have p101107 : R4101087 ≤ 0 ∨ 0 < D4101089 := by omega
                exact k _ _ (R4101087) (W4101088) (D4101089) q101090 p101107
              · replace c101106 := q_neq c101106
                rw [li_4] at c101106
                have p101108 : R4101087 ≤ 0 ∨ 0 < D4101089 := by omega
                exact k _ _ (R4101087) (W4101088) (D4101089) q101090 p101108
    · replace c101076 := q_eq c101076
      rw [li_0] at c101076
      have p101109 : R ≤ 0 ∨ 0 < D := by omega
      exact k _ _ (R) (W) (D) h101068 p101109
theorem wq_X7_total {post : Int32 → Prop} {s0 : Md} {x1 : Int32} {N R W D : Int} (h101110 : mb (N) (R) (W) (D) s0) (k : ∀ (r : Int32), post r) : wp_X7_total post s0 x1 := by
  unfold wp_X7_total
  have := h101110.1
  have := h101110.2.1
  have := h101110.2.2.1
  have := h101110.2.2.2.1
  refine wq_X7_isBoard h101110 (fun r_1 q101111 => ?_)
  refine ⟨fun c101112 => ?_, fun c101113 => ?_⟩
  · replace c101112 := q_eq c101112
    rw [li_0] at c101112
    exact k _
  · replace c101113 := q_neq c101113
    rw [li_0] at c101113
    refine wq_X7_in (fun r_4 q101114 => ?_)
    try simp only [lj_0, lj_3] at q101114
    have := tq_64 x1
    refine ⟨fun c101115 => ?_, fun c101116 => ?_⟩
    · replace c101115 := q_eq c101115
      rw [li_0] at c101115
      exact k _
    · replace c101116 := q_neq c101116
      rw [li_0] at c101116
      have e101117 := tq_addc li_4 x1
      try rw [Int.emod_eq_of_lt (show 0 ≤ 4 + (x1).toInt + 2147483648 by omega) (show 4 + (x1).toInt + 2147483648 < 4294967296 by omega)] at e101117
      have v101118 : vp_in (4 + x1) 6896 := vi (by omega) (by omega)
      refine ⟨v101118, ?_⟩
      exact k _
theorem wq_X7_rests_L16 {post : Int32 → Md → Prop} {e44 : Md → Int32 → Int32 → Prop} {D N R W : Int} (h101119 : 0 < D) (ke44 : ∀ (t0 : Md) (z1 : Int32) (z2 : Int32), mb (N) (R) (W) (D) t0 → 0 ≤ (z1).toInt ∧ (z1).toInt < 40 → 0 ≤ (z2).toInt ∧ (z2).toInt ≤ 10000 → e44 t0 z1 z2) : ∀ (n : Nat) (t0 : Md) (z1 : Int32) (z2 : Int32), mb (N) (R) (W) (D) t0 → 0 ≤ (z1).toInt ∧ (z1).toInt < 40 → 0 ≤ (z2).toInt ∧ (z2).toInt ≤ 10000 → 10001 - (z2).toInt < (n : Int) → wp_X7_rests_L16 post e44 n t0 z1 z2 := by
  intro n
  induction n with
  | zero =>
    intro t0 z1 z2 i101120 i101121 i101122 i101123
    have := i101120.1
    have := i101120.2.1
    have := i101120.2.2.1
    have := i101120.2.2.2.1
    exfalso
    omega
  | succ n ih =>
    intro t0 z1 z2 i101120 i101121 i101122 i101123
    unfold wp_X7_rests_L16
    have := i101120.1
    have := i101120.2.1
    have := i101120.2.2.1
    have := i101120.2.2.2.1
    have p101124 : 0 ≤ (z1).toInt ∧ (z1).toInt < 40 := by omega
    have p101125 : 0 < D := by omega
    refine wq_X7_leftOf i101120 p101124 p101125 (fun r_6 q101126 q101127 => ?_)
    refine ⟨fun c101128 => ?_, fun c101129 => ?_⟩
    · replace c101128 := q_le c101128
      rw [li_0] at c101128
      have p101130 : 0 ≤ (z1).toInt ∧ (z1).toInt < 40 := by omega
      have p101131 : 0 ≤ (z2).toInt ∧ (z2).toInt ≤ 10000 := by omega
      exact ke44 _ _ _ i101120 p101130 p101131
    · replace c101129 := q_nle c101129
      rw [li_0] at c101129
      refine ⟨fun c101132 => ?_, fun c101133 => ?_⟩
      · replace c101132 := q_lt c101132
        rw [li_9999] at c101132
        have p101134 : 0 ≤ (z1).toInt ∧ (z1).toInt < 40 := by omega
        have p101135 : 0 ≤ (z2).toInt ∧ (z2).toInt ≤ 10000 := by omega
        exact ke44 _ _ _ i101120 p101134 p101135
      · replace c101133 := q_nlt c101133
        rw [li_9999] at c101133
        have p101136 : 0 < D := by omega
        refine wq_X7_ticks i101120 p101136 (fun r_10 u_11 q101137 q101138 q101139 q101140 => ?_)
        have := q101137.1
        have := q101137.2.1
        refine ⟨fun c101141 => ?_, fun c101142 => ?_⟩
        · replace c101141 := q_le c101141
          rw [li_0] at c101141
          have p101143 : 0 ≤ (z1).toInt ∧ (z1).toInt < 40 := by omega
          have p101144 : 0 ≤ (z2).toInt ∧ (z2).toInt ≤ 10000 := by omega
          exact ke44 _ _ _ q101137 p101143 p101144
        · replace c101142 := q_nle c101142
          rw [li_0] at c101142
          have p101145 : 0 ≤ (z1).toInt ∧ (z1).toInt < 40 := by omega
          have e101146 := tq_addr li_1 z2
          try rw [Int.emod_eq_of_lt (show 0 ≤ (z2).toInt + 1 + 2147483648 by omega) (show (z2).toInt + 1 + 2147483648 < 4294967296 by omega)] at e101146
          have p101147 : 0 ≤ (z2 + 1).toInt ∧ (z2 + 1).toInt ≤ 10000 := by omega
          have p101148 : 10001 - (z2 + 1).toInt < ((n : Nat) : Int) := by (omega)
          exact ih _ _ _ q101137 p101145 p101147 p101148
theorem wq_X7_rests {post : Int32 → Md → Prop} {s0 : Md} {x1 : Int32} {N R W D : Int} (h101149 : mb (N) (R) (W) (D) s0) (h101150 : R ≤ 0 ∨ 0 < D) (k : ∀ (r : Int32) (u : Md) (R4 W4 D4 : Int), mb (N) (R4) (W4) (D4) u → R4 ≤ 0 ∨ 0 < D4 → post r u) : wp_X7_rests post s0 x1 := by
  unfold wp_X7_rests
  have := h101149.1
  have := h101149.2.1
  have := h101149.2.2.1
  have := h101149.2.2.2.1
  refine wq_X7_isCell h101149 (fun r_1 q101151 => ?_)
  refine ⟨fun c101152 => ?_, fun c101153 => ?_⟩
  · replace c101152 := q_neq c101152
    rw [li_0] at c101152
    have p101154 : R ≤ 0 ∨ 0 < D := by omega
    refine wq_X7_putsAside h101149 p101154 (fun u_5 q101155 q101156 q101157 => ?_)
    have := q101155.1
    have := q101155.2.1
    have p101158 : 0 < D := by omega
    have p101159 : 0 ≤ (x1).toInt ∧ (x1).toInt < 40 := by omega
    have p101160 : 0 ≤ (0 : Int32).toInt ∧ (0 : Int32).toInt ≤ 10000 := by (have := li_0; omega)
    obtain ⟨f101161, g101162⟩ := fu_e 10002
    have p101163 : 10001 - (0 : Int32).toInt < (f101161 : Int) := by (have := li_0; omega)
    refine ⟨f101161, wq_X7_rests_L16 p101158 (fun t0 z1 z2 q101164 q101165 q101166 => ?_) f101161 _ _ _ q101155 p101159 p101160 p101163⟩
    have := q101164.1
    have := q101164.2.1
    have p101167 : 0 ≤ (z1).toInt ∧ (z1).toInt < 40 := by omega
    have p101168 : 0 < D := by omega
    refine wq_X7_leftOf q101164 p101167 p101168 (fun r_13 q101169 q101170 => ?_)
    refine ⟨fun c101171 => ?_, fun c101172 => ?_⟩
    · replace c101171 := q_lt c101171
      rw [li_0] at c101171
      refine wq_X7_takesBack q101164 (fun u_17 R4101173 W4101174 D4101175 q101176 q101177 q101178 => ?_)
      have := q101176.1
      have := q101176.2.1
      have := q101176.2.2.2.1
      have p101179 : R4101173 ≤ 0 ∨ 0 < D4101175 := by omega
      exact k _ _ (R4101173) (W4101174) (D4101175) q101176 p101179
    · replace c101172 := q_nlt c101172
      rw [li_0] at c101172
      refine ⟨fun c101180 => ?_, fun c101181 => ?_⟩
      · replace c101180 := q_le c101180
        rw [li_9999] at c101180
        refine wq_X7_takesBack q101164 (fun u_20 R4101182 W4101183 D4101184 q101185 q101186 q101187 => ?_)
        have := q101185.1
        have := q101185.2.1
        have := q101185.2.2.2.1
        have p101188 : R4101182 ≤ 0 ∨ 0 < D4101184 := by omega
        exact k _ _ (R4101182) (W4101183) (D4101184) q101185 p101188
      · replace c101181 := q_nle c101181
        rw [li_9999] at c101181
        refine wq_X7_takesBack q101164 (fun u_22 R4101189 W4101190 D4101191 q101192 q101193 q101194 => ?_)
        have := q101192.1
        have := q101192.2.1
        have := q101192.2.2.2.1
        have p101195 : R4101189 ≤ 0 ∨ 0 < D4101191 := by omega
        exact k _ _ (R4101189) (W4101190) (D4101191) q101192 p101195
  · replace c101153 := q_eq c101153
    rw [li_0] at c101153
    have p101196 : R ≤ 0 ∨ 0 < D := by omega
    exact k _ _ (R) (W) (D) h101149 p101196
theorem wq_X7_unlike_L28 {s0 : Md} {post : Int32 → Prop} {e82 : Int32 → Int32 → Int32 → Int32 → Prop} {N R W D : Int} (h101197 : mb (N) (R) (W) (D) s0) (h101198 : 0 < D) (ke82 : ∀ (z1 : Int32) (z2 : Int32) (z3 : Int32) (z4 : Int32), 0 ≤ (z1).toInt ∧ (z1).toInt < R ∧ 0 ≤ (z2).toInt ∧ (z2).toInt < R → 0 ≤ (z4).toInt ∧ (z4).toInt ≤ W → e82 z1 z2 z3 z4) : ∀ (n : Nat) (z1 : Int32) (z2 : Int32) (z3 : Int32) (z4 : Int32), 0 ≤ (z1).toInt ∧ (z1).toInt < R ∧ 0 ≤ (z2).toInt ∧ (z2).toInt < R → 0 ≤ (z4).toInt ∧ (z4).toInt ≤ W → W - (z4).toInt < (n : Int) → wp_X7_unlike_L28 s0 post e82 n z1 z2 z3 z4 := by
  have := h101197.1
  have := h101197.2.1
  have := h101197.2.2.1
  have := h101197.2.2.2.1
  intro n
  induction n with
  | zero =>
    intro z1 z2 z3 z4 i101199 i101200 i101201
    exfalso
    omega
  | succ n ih =>
    intro z1 z2 z3 z4 i101199 i101200 i101201
    unfold wp_X7_unlike_L28
    refine wq_X7_wide h101197 (fun r_8 q101202 => ?_)
    refine ⟨fun c101203 => ?_, fun c101204 => ?_⟩
    · replace c101203 := q_le c101203
      have p101205 : 0 ≤ (z1).toInt ∧ (z1).toInt < R ∧ 0 ≤ (z2).toInt ∧ (z2).toInt < R := by omega
      have p101206 : 0 ≤ (z4).toInt ∧ (z4).toInt ≤ W := by omega
      exact ke82 _ _ _ _ p101205 p101206
    · replace c101204 := q_nle c101204
      refine wq_X7_wide h101197 (fun r_11 q101207 => ?_)
      have := rw_r (a := z1) (b := r_11) (R := R) (W := W) (by omega) (by omega) (by omega)
      have e101208 := tq_add (r_11 * z1) z4
      try rw [Int.emod_eq_of_lt (show 0 ≤ (r_11 * z1).toInt + (z4).toInt + 2147483648 by omega) (show (r_11 * z1).toInt + (z4).toInt + 2147483648 < 4294967296 by omega)] at e101208
      have p101209 : 0 ≤ ((r_11 * z1) + z4).toInt ∧ ((r_11 * z1) + z4).toInt < 40 := by omega
      have p101210 : 0 < D := by omega
      have p101211 : 0 ≤ ((2 : Int32)).toInt ∧ ((2 : Int32)).toInt ≤ 2 := by (have := li_2; omega)
      refine wq_X7_signAt h101197 p101209 p101210 p101211 (fun r_13 => ?_)
      refine wq_X7_wide h101197 (fun r_15 q101212 => ?_)
      have := rw_r (a := z2) (b := r_15) (R := R) (W := W) (by omega) (by omega) (by omega)
      have e101213 := tq_add (r_15 * z2) z4
      try rw [Int.emod_eq_of_lt (show 0 ≤ (r_15 * z2).toInt + (z4).toInt + 2147483648 by omega) (show (r_15 * z2).toInt + (z4).toInt + 2147483648 < 4294967296 by omega)] at e101213
      have p101214 : 0 ≤ ((r_15 * z2) + z4).toInt ∧ ((r_15 * z2) + z4).toInt < 40 := by omega
      have p101215 : 0 < D := by omega
      have p101216 : 0 ≤ ((2 : Int32)).toInt ∧ ((2 : Int32)).toInt ≤ 2 := by (have := li_2; omega)
      refine wq_X7_signAt h101197 p101214 p101215 p101216 (fun r_17 => ?_)
      refine ⟨fun c101217 => ?_, fun c101218 => ?_⟩
      · replace c101217 := q_eq c101217
        have p101219 : 0 ≤ (z1).toInt ∧ (z1).toInt < R ∧ 0 ≤ (z2).toInt ∧ (z2).toInt < R := by omega
        have e101220 := tq_addr li_1 z4
        try rw [Int.emod_eq_of_lt (show 0 ≤ (z4).toInt + 1 + 2147483648 by omega) (show (z4).toInt + 1 + 2147483648 < 4294967296 by omega)] at e101220
        have p101221 : 0 ≤ (z4 + 1).toInt ∧ (z4 + 1).toInt ≤ W := by omega
        have p101222 : W - (z4 + 1).toInt < ((n : Nat) : Int) := by (omega)
        exact ih _ _ _ _ p101219 p101221 p101222
      · replace c101218 := q_neq c101218
        have p101223 : 0 ≤ (z1).toInt ∧ (z1).toInt < R ∧ 0 ≤ (z2).toInt ∧ (z2).toInt < R := by omega
        have e101224 := tq_addr li_1 z4
        try rw [Int.emod_eq_of_lt (show 0 ≤ (z4).toInt + 1 + 2147483648 by omega) (show (z4).toInt + 1 + 2147483648 < 4294967296 by omega)] at e101224
        have p101225 : 0 ≤ (z4 + 1).toInt ∧ (z4 + 1).toInt ≤ W := by omega
        have p101226 : W - (z4 + 1).toInt < ((n : Nat) : Int) := by (omega)
        exact ih _ _ _ _ p101223 p101225 p101226
theorem wq_X7_unlike {post : Int32 → Prop} {s0 : Md} {x1 : Int32} {x2 : Int32} {N R W D : Int} (h101227 : mb (N) (R) (W) (D) s0) (h101228 : R ≤ 0 ∨ 0 < D) (k : ∀ (r : Int32), post r) : wp_X7_unlike post s0 x1 x2 := by
  unfold wp_X7_unlike
  have := h101227.1
  have := h101227.2.1
  have := h101227.2.2.1
  have := h101227.2.2.2.1
  refine wq_X7_isRow h101227 (fun r_1 q101229 => ?_)
  refine ⟨fun c101230 => ?_, fun c101231 => ?_⟩
  · replace c101230 := q_eq c101230
    rw [li_0] at c101230
    exact k _
  · replace c101231 := q_neq c101231
    rw [li_0] at c101231
    refine wq_X7_isRow h101227 (fun r_4 q101232 => ?_)
    refine ⟨fun c101233 => ?_, fun c101234 => ?_⟩
    · replace c101233 := q_eq c101233
      rw [li_0] at c101233
      exact k _
    · replace c101234 := q_neq c101234
      rw [li_0] at c101234
      refine ⟨fun c101235 => ?_, fun c101236 => ?_⟩
      · replace c101235 := q_neq c101235
        have p101237 : 0 < D := by omega
        have p101238 : 0 ≤ (x1).toInt ∧ (x1).toInt < R ∧ 0 ≤ (x2).toInt ∧ (x2).toInt < R := by omega
        have p101239 : 0 ≤ (0 : Int32).toInt ∧ (0 : Int32).toInt ≤ W := by (have := li_0; omega)
        obtain ⟨f101240, g101241⟩ := fu_e 50
        have p101242 : W - (0 : Int32).toInt < (f101240 : Int) := by (have := li_0; omega)
        refine ⟨f101240, wq_X7_unlike_L28 h101227 p101237 (fun z1 z2 z3 z4 q101243 q101244 => ?_) f101240 _ _ _ _ p101238 p101239 p101242⟩
        exact k _
      · replace c101236 := q_eq c101236
        exact k _

theorem wq_X7_digest_L17 {s0 : Md} {post : Int64 → Prop} {e44 : Int64 → Int32 → Int32 → Prop} {N R W D Z : Int} (h101245 : mb (N) (R) (W) (D) s0) (ke44 : ∀ (w1 : Int64) (z3 : Int32) (z4 : Int32), 0 ≤ (z4).toInt ∧ (z4).toInt ≤ 5 → 0 ≤ (z3).toInt ∧ (z3).toInt < 40 → (z3).toInt = Z → e44 w1 z3 z4) : ∀ (n : Nat) (w1 : Int64) (z3 : Int32) (z4 : Int32), 0 ≤ (z4).toInt ∧ (z4).toInt ≤ 5 → 0 ≤ (z3).toInt ∧ (z3).toInt < 40 → (z3).toInt = Z → 5 - (z4).toInt < (n : Int) → wp_X7_digest_L17 s0 post e44 n w1 z3 z4 := by
  have := h101245.1
  have := h101245.2.1
  have := h101245.2.2.1
  have := h101245.2.2.2.1
  intro n
  induction n with
  | zero =>
    intro w1 z3 z4 i101246 i101247 i101248 i101249
    exfalso
    omega
  | succ n ih =>
    intro w1 z3 z4 i101246 i101247 i101248 i101249
    unfold wp_X7_digest_L17
    refine ⟨fun c101250 => ?_, fun c101251 => ?_⟩
    · replace c101250 := q_lt c101250
      rw [li_4] at c101250
      have p101252 : 0 ≤ (z4).toInt ∧ (z4).toInt ≤ 5 := by omega
      have p101253 : 0 ≤ (z3).toInt ∧ (z3).toInt < 40 := by omega
      have p101254 : (z3).toInt = Z := by omega
      exact ke44 _ _ _ p101252 p101253 p101254
    · replace c101251 := q_nlt c101251
      rw [li_4] at c101251
      have p101255 : 0 ≤ (z3).toInt ∧ (z3).toInt < 40 := by omega
      have p101256 : 0 ≤ (z4).toInt ∧ (z4).toInt ≤ 7 := by omega
      refine wq_X7_of_g h101245 p101255 p101256 (fun r_5 => ?_)
      have e101257 := tq_addr li_1 z4
      try rw [Int.emod_eq_of_lt (show 0 ≤ (z4).toInt + 1 + 2147483648 by omega) (show (z4).toInt + 1 + 2147483648 < 4294967296 by omega)] at e101257
      have p101258 : 0 ≤ (z4 + 1).toInt ∧ (z4 + 1).toInt ≤ 5 := by omega
      have p101259 : 0 ≤ (z3).toInt ∧ (z3).toInt < 40 := by omega
      have p101260 : (z3).toInt = Z := by omega
      have p101261 : 5 - (z4 + 1).toInt < ((n : Nat) : Int) := by (omega)
      exact ih _ _ _ p101258 p101259 p101260 p101261
theorem wq_X7_digest_L6 {s0 : Md} {post : Int64 → Prop} {e62 : Int64 → Int32 → Prop} {N R W D : Int} (h101262 : mb (N) (R) (W) (D) s0) (ke62 : ∀ (w1 : Int64) (z3 : Int32), 0 ≤ (z3).toInt ∧ (z3).toInt ≤ R * W → e62 w1 z3) : ∀ (n : Nat) (w1 : Int64) (z3 : Int32), 0 ≤ (z3).toInt ∧ (z3).toInt ≤ R * W → R * W - (z3).toInt < (n : Int) → wp_X7_digest_L6 s0 post e62 n w1 z3 := by
  have := h101262.1
  have := h101262.2.1
  have := h101262.2.2.1
  have := h101262.2.2.2.1
  intro n
  induction n with
  | zero =>
    intro w1 z3 i101263 i101264
    exfalso
    omega
  | succ n ih =>
    intro w1 z3 i101263 i101264
    unfold wp_X7_digest_L6
    refine wq_X7_cells h101262 (fun r_1 q101265 => ?_)
    refine ⟨fun c101266 => ?_, fun c101267 => ?_⟩
    · replace c101266 := q_le c101266
      have p101268 : 0 ≤ (z3).toInt ∧ (z3).toInt ≤ R * W := by omega
      exact ke62 _ _ p101268
    · replace c101267 := q_nle c101267
      have p101269 : 0 ≤ (0 : Int32).toInt ∧ (0 : Int32).toInt ≤ 5 := by (have := li_0; omega)
      have p101270 : 0 ≤ (z3).toInt ∧ (z3).toInt < 40 := by omega
      have p101271 : (z3).toInt = ((z3).toInt) := by omega
      obtain ⟨f101272, g101273⟩ := fu_e 10
      have p101274 : 5 - (0 : Int32).toInt < (f101272 : Int) := by (have := li_0; omega)
      refine ⟨f101272, wq_X7_digest_L17 h101262 (fun w1_101275 z3_101276 z4 q101277 q101278 q101279 => ?_) f101272 _ _ _ p101269 p101270 p101271 p101274⟩
      have p101280 : 0 ≤ (z3_101276).toInt ∧ (z3_101276).toInt < 40 := by omega
      refine wq_X7_wornOf p101280 (fun r_7 => ?_)
      have e101281 := tq_addr li_1 z3_101276
      try rw [Int.emod_eq_of_lt (show 0 ≤ (z3_101276).toInt + 1 + 2147483648 by omega) (show (z3_101276).toInt + 1 + 2147483648 < 4294967296 by omega)] at e101281
      have p101282 : 0 ≤ (z3_101276 + 1).toInt ∧ (z3_101276 + 1).toInt ≤ R * W := by omega
      have p101283 : R * W - (z3_101276 + 1).toInt < ((n : Nat) : Int) := by (omega)
      exact ih _ _ p101282 p101283
theorem wq_X7_digest {post : Int64 → Prop} {s0 : Md} {N R W D : Int} (h101284 : mb (N) (R) (W) (D) s0) (k : ∀ (r : Int64), post r) : wp_X7_digest post s0 := by
  unfold wp_X7_digest
  have := h101284.1
  have := h101284.2.1
  have := h101284.2.2.1
  have := h101284.2.2.2.1
  have p101285 : 0 ≤ (0 : Int32).toInt ∧ (0 : Int32).toInt ≤ R * W := by (have := li_0; omega)
  obtain ⟨f101286, g101287⟩ := fu_e 50
  have p101288 : R * W - (0 : Int32).toInt < (f101286 : Int) := by (have := li_0; omega)
  refine ⟨f101286, wq_X7_digest_L6 h101284 (fun w1 z3 q101289 => ?_) f101286 _ _ p101285 p101288⟩
  exact k _
