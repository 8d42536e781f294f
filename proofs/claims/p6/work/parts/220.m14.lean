theorem wq_X4_goOn_L99b {post : Pg → Prop} {e198 : Pg → Int32 → Prop} {R : Int} (ke198 : ∀ (t0 : Pg) (z1 : Int32), pg (R) t0 → 0 ≤ (z1).toInt ∧ (z1).toInt ≤ 3 → e198 t0 z1) : ∀ (n : Nat) (t0 : Pg) (z1 : Int32), pg (R) t0 → 0 ≤ (z1).toInt ∧ (z1).toInt ≤ 3 → 3 - (z1).toInt < (n : Int) → wp_X4_goOn_L99b post e198 n t0 z1 := by
  intro n
  induction n with
  | zero =>
    intro t0 z1 i2662 i2663 i2664
    have := i2662.1
    exfalso
    omega
  | succ n ih =>
    intro t0 z1 i2662 i2663 i2664
    unfold wp_X4_goOn_L99b
    have := i2662.1
    refine ⟨fun c2665 => ?_, fun c2666 => ?_⟩
    · replace c2665 := q_le c2665
      rw [li_3] at c2665
      have p2667 : 0 ≤ (z1).toInt ∧ (z1).toInt ≤ 3 := by omega
      exact ke198 _ _ i2662 p2667
    · replace c2666 := q_nle c2666
      rw [li_3] at c2666
      refine ⟨fun c2668 => ?_, fun c2669 => ?_⟩
      · replace c2668 := q_le c2668
        rw [li_0] at c2668
        have p2670 : 0 ≤ (z1).toInt ∧ (z1).toInt ≤ 3 := by omega
        exact ke198 _ _ i2662 p2670
      · replace c2669 := q_nle c2669
        rw [li_0] at c2669
        have e2671 := tq_subr li_1 (t0.1 0)
        try rw [Int.emod_eq_of_lt (show 0 ≤ (t0.1 0).toInt - 1 + 2147483648 by omega) (show (t0.1 0).toInt - 1 + 2147483648 < 4294967296 by omega)] at e2671
        have v2672 : vp_in ((t0.1 0) - 1) 3 := vi (by omega) (by omega)
        refine ⟨v2672, ?_⟩
        refine wq_X4_endOf i2662 (fun r_25 => ?_)
        refine ⟨fun c2673 => ?_, fun c2674 => ?_⟩
        · replace c2673 := q_neq c2673
          have p2675 : 0 ≤ (z1).toInt ∧ (z1).toInt ≤ 3 := by omega
          exact ke198 _ _ i2662 p2675
        · replace c2674 := q_eq c2674
          refine ⟨v2672, ?_⟩
          refine ⟨fun c2676 => ?_, fun c2677 => ?_⟩
          · replace c2676 := q_le c2676
            rw [li_0] at c2676
            have p2678 : 0 ≤ ((t0.1 0) - 1).toInt ∧ ((t0.1 0) - 1).toInt ≤ 3 ∧ 0 ≤ (t0.1 1).toInt ∧ (t0.1 1).toInt ≤ 80 := by omega
            have p2679 : ar 80 (0) (99) (t0.2 1) := i2662.2.1
            have B2680 : pg (R) ((va_up t0.1 0 ((t0.1 0) - 1)), t0.2) := ⟨p2678, p2679, i2662.2.2⟩
            have e2681 := tq_addr li_1 z1
            try rw [Int.emod_eq_of_lt (show 0 ≤ (z1).toInt + 1 + 2147483648 by omega) (show (z1).toInt + 1 + 2147483648 < 4294967296 by omega)] at e2681
            have p2682 : 0 ≤ (z1 + 1).toInt ∧ (z1 + 1).toInt ≤ 3 := by omega
            have p2683 : 3 - (z1 + 1).toInt < ((n : Nat) : Int) := by (omega)
            exact ih _ _ B2680 p2682 p2683
          · replace c2677 := q_nle c2677
            rw [li_0] at c2677
            refine ⟨v2672, ?_⟩
            refine ⟨v2672, ?_⟩
            refine ⟨v2672, ?_⟩
            have p2684 : 0 ≤ (t0.1 0).toInt ∧ (t0.1 0).toInt ≤ 3 ∧ 0 ≤ (t0.1 1).toInt ∧ (t0.1 1).toInt ≤ 80 := by omega
            have p2685 : ar 80 (0) (99) (t0.2 1) := i2662.2.1
            have B2686 : pg (R) ((va_up t0.1 2 ((t0.2 5 (Int32.toNatClampNeg ((t0.1 0) - 1))) + 1)), (va_up t0.2 6 (upd (t0.2 6) (Int32.toNatClampNeg ((t0.1 0) - 1)) ((t0.2 6 (Int32.toNatClampNeg ((t0.1 0) - 1))) - 1)))) := ⟨p2684, p2685, i2662.2.2⟩
            have e2687 := tq_addr li_1 z1
            try rw [Int.emod_eq_of_lt (show 0 ≤ (z1).toInt + 1 + 2147483648 by omega) (show (z1).toInt + 1 + 2147483648 < 4294967296 by omega)] at e2687
            have p2688 : 0 ≤ (z1 + 1).toInt ∧ (z1 + 1).toInt ≤ 3 := by omega
            have p2689 : 3 - (z1 + 1).toInt < ((n : Nat) : Int) := by (omega)
            exact ih _ _ B2686 p2688 p2689
theorem wq_X4_goOn_L99bb {post : Pg → Prop} {e198 : Pg → Int32 → Prop} {R : Int} (ke198 : ∀ (t0 : Pg) (z1 : Int32), pg (R) t0 → 0 ≤ (z1).toInt ∧ (z1).toInt ≤ 3 → e198 t0 z1) : ∀ (n : Nat) (t0 : Pg) (z1 : Int32), pg (R) t0 → 0 ≤ (z1).toInt ∧ (z1).toInt ≤ 3 → 3 - (z1).toInt < (n : Int) → wp_X4_goOn_L99bb post e198 n t0 z1 := by
  intro n
  induction n with
  | zero =>
    intro t0 z1 i2690 i2691 i2692
    have := i2690.1
    exfalso
    omega
  | succ n ih =>
    intro t0 z1 i2690 i2691 i2692
    unfold wp_X4_goOn_L99bb
    have := i2690.1
    refine ⟨fun c2693 => ?_, fun c2694 => ?_⟩
    · replace c2693 := q_le c2693
      rw [li_3] at c2693
      have p2695 : 0 ≤ (z1).toInt ∧ (z1).toInt ≤ 3 := by omega
      exact ke198 _ _ i2690 p2695
    · replace c2694 := q_nle c2694
      rw [li_3] at c2694
      refine ⟨fun c2696 => ?_, fun c2697 => ?_⟩
      · replace c2696 := q_le c2696
        rw [li_0] at c2696
        have p2698 : 0 ≤ (z1).toInt ∧ (z1).toInt ≤ 3 := by omega
        exact ke198 _ _ i2690 p2698
      · replace c2697 := q_nle c2697
        rw [li_0] at c2697
        have e2699 := tq_subr li_1 (t0.1 0)
        try rw [Int.emod_eq_of_lt (show 0 ≤ (t0.1 0).toInt - 1 + 2147483648 by omega) (show (t0.1 0).toInt - 1 + 2147483648 < 4294967296 by omega)] at e2699
        have v2700 : vp_in ((t0.1 0) - 1) 3 := vi (by omega) (by omega)
        refine ⟨v2700, ?_⟩
        refine wq_X4_endOf i2690 (fun r_39 => ?_)
        refine ⟨fun c2701 => ?_, fun c2702 => ?_⟩
        · replace c2701 := q_neq c2701
          have p2703 : 0 ≤ (z1).toInt ∧ (z1).toInt ≤ 3 := by omega
          exact ke198 _ _ i2690 p2703
        · replace c2702 := q_eq c2702
          refine ⟨v2700, ?_⟩
          refine ⟨fun c2704 => ?_, fun c2705 => ?_⟩
          · replace c2704 := q_le c2704
            rw [li_0] at c2704
            have p2706 : 0 ≤ ((t0.1 0) - 1).toInt ∧ ((t0.1 0) - 1).toInt ≤ 3 ∧ 0 ≤ (t0.1 1).toInt ∧ (t0.1 1).toInt ≤ 80 := by omega
            have p2707 : ar 80 (0) (99) (t0.2 1) := i2690.2.1
            have B2708 : pg (R) ((va_up t0.1 0 ((t0.1 0) - 1)), t0.2) := ⟨p2706, p2707, i2690.2.2⟩
            have e2709 := tq_addr li_1 z1
            try rw [Int.emod_eq_of_lt (show 0 ≤ (z1).toInt + 1 + 2147483648 by omega) (show (z1).toInt + 1 + 2147483648 < 4294967296 by omega)] at e2709
            have p2710 : 0 ≤ (z1 + 1).toInt ∧ (z1 + 1).toInt ≤ 3 := by omega
            have p2711 : 3 - (z1 + 1).toInt < ((n : Nat) : Int) := by (omega)
            exact ih _ _ B2708 p2710 p2711
          · replace c2705 := q_nle c2705
            rw [li_0] at c2705
            refine ⟨v2700, ?_⟩
            refine ⟨v2700, ?_⟩
            refine ⟨v2700, ?_⟩
            have p2712 : 0 ≤ (t0.1 0).toInt ∧ (t0.1 0).toInt ≤ 3 ∧ 0 ≤ (t0.1 1).toInt ∧ (t0.1 1).toInt ≤ 80 := by omega
            have p2713 : ar 80 (0) (99) (t0.2 1) := i2690.2.1
            have B2714 : pg (R) ((va_up t0.1 2 ((t0.2 5 (Int32.toNatClampNeg ((t0.1 0) - 1))) + 1)), (va_up t0.2 6 (upd (t0.2 6) (Int32.toNatClampNeg ((t0.1 0) - 1)) ((t0.2 6 (Int32.toNatClampNeg ((t0.1 0) - 1))) - 1)))) := ⟨p2712, p2713, i2690.2.2⟩
            have e2715 := tq_addr li_1 z1
            try rw [Int.emod_eq_of_lt (show 0 ≤ (z1).toInt + 1 + 2147483648 by omega) (show (z1).toInt + 1 + 2147483648 < 4294967296 by omega)] at e2715
            have p2716 : 0 ≤ (z1 + 1).toInt ∧ (z1 + 1).toInt ≤ 3 := by omega
            have p2717 : 3 - (z1 + 1).toInt < ((n : Nat) : Int) := by (omega)
            exact ih _ _ B2714 p2716 p2717
theorem wq_X4_goOn {post : Pg → Prop} {s0 : Pg} {R : Int} (h2718 : pg (R) s0) (k : ∀ (u : Pg), pg (R) u → post u) : wp_X4_goOn post s0 := by
  unfold wp_X4_goOn
  have := h2718.1
  refine wq_X4_kindOf h2718 (fun r_1 q2719 => ?_)
  refine ⟨fun c2720 => ?_, fun c2721 => ?_⟩
  · replace c2720 := q_neq c2720
    rw [li_12] at c2720
    refine wq_X4_endOf h2718 (fun r_4 => ?_)
    have p2722 : 0 ≤ (s0.1 0).toInt ∧ (s0.1 0).toInt ≤ 3 ∧ 0 ≤ (s0.1 1).toInt ∧ (s0.1 1).toInt ≤ 80 := by omega
    have p2723 : ar 80 (0) (99) (s0.2 1) := h2718.2.1
    have B2724 : pg (R) ((va_up s0.1 2 r_4), s0.2) := ⟨p2722, p2723, h2718.2.2⟩
    have p2725 : 0 ≤ (0 : Int32).toInt ∧ (0 : Int32).toInt ≤ 3 := by (have := li_0; omega)
    obtain ⟨f2726, g2727⟩ := fu_e 10
    have p2728 : 3 - (0 : Int32).toInt < (f2726 : Int) := by (have := li_0; omega)
    refine ⟨f2726, wq_X4_goOn_L99 (fun t0 z1 q2729 q2730 => ?_) f2726 _ _ B2724 p2725 p2728⟩
    have := q2729.1
    exact k _ q2729
  · replace c2721 := q_eq c2721
    rw [li_12] at c2721
    refine wq_X4_oneOf h2718 (fun r_17 q2731 q2732 => ?_)
    refine ⟨fun c2733 => ?_, fun c2734 => ?_⟩
    · replace c2733 := q_le c2733
      rw [li_0] at c2733
      refine wq_X4_endOf h2718 (fun r_20 => ?_)
      have p2735 : 0 ≤ (s0.1 0).toInt ∧ (s0.1 0).toInt ≤ 3 ∧ 0 ≤ (s0.1 1).toInt ∧ (s0.1 1).toInt ≤ 80 := by omega
      have p2736 : ar 80 (0) (99) (s0.2 1) := h2718.2.1
      have B2737 : pg (R) ((va_up s0.1 2 r_20), s0.2) := ⟨p2735, p2736, h2718.2.2⟩
      have p2738 : 0 ≤ (0 : Int32).toInt ∧ (0 : Int32).toInt ≤ 3 := by (have := li_0; omega)
      obtain ⟨f2739, g2740⟩ := fu_e 10
      have p2741 : 3 - (0 : Int32).toInt < (f2739 : Int) := by (have := li_0; omega)
      refine ⟨f2739, wq_X4_goOn_L99b (fun t0 z1 q2742 q2743 => ?_) f2739 _ _ B2737 p2738 p2741⟩
      have := q2742.1
      exact k _ q2742
    · replace c2734 := q_nle c2734
      rw [li_0] at c2734
      refine ⟨fun c2744 => ?_, fun c2745 => ?_⟩
      · replace c2744 := q_le c2744
        rw [li_3] at c2744
        refine wq_X4_endOf h2718 (fun r_34 => ?_)
        have p2746 : 0 ≤ (s0.1 0).toInt ∧ (s0.1 0).toInt ≤ 3 ∧ 0 ≤ (s0.1 1).toInt ∧ (s0.1 1).toInt ≤ 80 := by omega
        have p2747 : ar 80 (0) (99) (s0.2 1) := h2718.2.1
        have B2748 : pg (R) ((va_up s0.1 2 r_34), s0.2) := ⟨p2746, p2747, h2718.2.2⟩
        have p2749 : 0 ≤ (0 : Int32).toInt ∧ (0 : Int32).toInt ≤ 3 := by (have := li_0; omega)
        obtain ⟨f2750, g2751⟩ := fu_e 10
        have p2752 : 3 - (0 : Int32).toInt < (f2750 : Int) := by (have := li_0; omega)
        refine ⟨f2750, wq_X4_goOn_L99bb (fun t0 z1 q2753 q2754 => ?_) f2750 _ _ B2748 p2749 p2752⟩
        have := q2753.1
        exact k _ q2753
      · replace c2745 := q_nle c2745
        rw [li_3] at c2745
        have v2755 : vp_in (s0.1 0) 3 := vi (by omega) (by omega)
        refine ⟨v2755, ?_⟩
        have p2756 : 0 ≤ (s0.1 0).toInt ∧ (s0.1 0).toInt ≤ 3 ∧ 0 ≤ (s0.1 1).toInt ∧ (s0.1 1).toInt ≤ 80 := by omega
        have p2757 : ar 80 (0) (99) (s0.2 1) := h2718.2.1
        have B2758 : pg (R) (s0.1, (va_up s0.2 5 (upd (s0.2 5) (Int32.toNatClampNeg (s0.1 0)) (s0.1 2)))) := ⟨p2756, p2757, h2718.2.2⟩
        refine wq_X4_oneOf B2758 (fun r_48 q2759 q2760 => ?_)
        replace q2759 : 0 ≤ (r_48).toInt ∧ (r_48).toInt ≤ 99 := q2759
        replace q2760 : (r_48).toInt < R ∨ (s0.1 2).toInt < 0 ∨ (s0.1 1).toInt ≤ (s0.1 2).toInt ∨ ((s0.2 0 (Int32.toNatClampNeg (s0.1 2))).toInt ≠ 6 ∧ (s0.2 0 (Int32.toNatClampNeg (s0.1 2))).toInt ≠ 9) := q2760
        refine ⟨v2755, ?_⟩
        have e2761 := tq_addr li_1 (s0.1 0)
        try rw [Int.emod_eq_of_lt (show 0 ≤ (s0.1 0).toInt + 1 + 2147483648 by omega) (show (s0.1 0).toInt + 1 + 2147483648 < 4294967296 by omega)] at e2761
        have p2762 : 0 ≤ ((s0.1 0) + 1).toInt ∧ ((s0.1 0) + 1).toInt ≤ 3 ∧ 0 ≤ (s0.1 1).toInt ∧ (s0.1 1).toInt ≤ 80 := by omega
        have p2763 : ar 80 (0) (99) (s0.2 1) := h2718.2.1
        have B2764 : pg (R) ((va_up (va_up s0.1 0 ((s0.1 0) + 1)) 2 ((s0.1 2) + 1)), (va_up (va_up s0.2 5 (upd (s0.2 5) (Int32.toNatClampNeg (s0.1 0)) (s0.1 2))) 6 (upd (s0.2 6) (Int32.toNatClampNeg (s0.1 0)) (r_48 - 1)))) := ⟨p2762, p2763, h2718.2.2⟩
        exact k _ B2764
theorem wq_X4_openTimes {post : Pg → Tp → Prop} {s0 : Pg} {s1 : Tp} {R N : Int} (h1 : pg R s0) (h2 : tj N s1) (k : ∀ (ua : Pg) (ub : Tp), pg R ua → tj N ub → post ua ub) : wp_X4_openTimes post s0 s1 := by
  unfold wp_X4_openTimes
  have e1 : (1 : Int32).toInt = 1 := rfl
  have e3 : (3 : Int32).toInt = 3 := rfl
  have e40 : (40 : Int32).toInt = 40 := rfl
  have d := h1.1
  have e2 := tq_add (s0.1 0) 1
  have good : (s0.1 0).toInt < 3 → pg R ((va_up s0.1 0 ((s0.1 0) + 1)), (va_up s0.2 5 (upd (s0.2 5) (Int32.toNatClampNeg (s0.1 0)) (s0.1 1)))) := fun g => ⟨by
    show 0 ≤ (s0.1 0 + 1).toInt ∧ (s0.1 0 + 1).toInt ≤ 3 ∧ 0 ≤ (s0.1 1).toInt ∧ (s0.1 1).toInt ≤ 80
    omega, h1.2.1, h1.2.2⟩
  refine wq_X5_peek h2 (fun r u hu a1 a2 a3 a4 a5 a6 a7 a8 a9 => ?_)
  have u0 := hu.1
  have u1 := hu.2.1
  have u2 := hu.2.2
  refine ⟨fun c => ?_, fun c => ⟨fun g => ?_, fun g => ?_⟩⟩
  · refine wq_X5_takeByte hu (by omega) (fun v hv b1 b2 b3 => ?_)
    have bad : ¬ (v.1 5).toInt = 0 := b3 a8 (fun e => c (a7.trans e))
    refine wq_X5_isSound (fun q hq => ⟨fun _ => k _ _ h1 hv, fun z => ?_⟩)
    have := q_neq z
    have e0 : (0 : Int32).toInt = 0 := rfl
    exfalso
    omega
  · have g2 := q_lt g
    refine wq_X5_takeByte hu (by omega) (fun v hv b1 b2 b3 => ?_)
    exact wq_X5_isSound (fun q hq => ⟨fun _ => k _ _ h1 hv, fun z => ⟨vi (by omega) (by omega), k _ _ (good (by omega)) hv⟩⟩)
  · refine wq_X5_blame (N := N) ⟨u0, by omega, u2⟩ (by omega) (fun v hv b1 b2 b3 b4 b5 => ?_)
    have v0 := hv.1
    have v1 := hv.2.1
    refine wq_X5_takeByte (N := N) ⟨v0, by omega, u2⟩ (by omega) (fun w hw f1 f2 f3 => ?_)
    refine wq_X5_isSound (fun q hq => ⟨fun _ => k _ _ h1 hw, fun z => ?_⟩)
    have := q_neq z
    have e0 : (0 : Int32).toInt = 0 := rfl
    exfalso
    omega
theorem wq_X4_addStep {post : Pg → Prop} {s0 : Pg} {x1 x2 x3 x4 : Int32} {R : Int} (h1 : pg R s0) (h2 : 0 ≤ x2.toInt ∧ x2.toInt ≤ 99) (h3 : (x1.toInt ≠ 6 ∧ x1.toInt ≠ 9) ∨ x2.toInt < R) (k : ∀ u : Pg, pg R u → post u) : wp_X4_addStep post s0 x1 x2 x3 x4 := by
  unfold wp_X4_addStep
  have d := h1.1
  have e1 : (1 : Int32).toInt = 1 := rfl
  have e80 : (80 : Int32).toInt = 80 := rfl
  have e2 := tq_add (s0.1 1) 1
  refine ⟨fun _ => k _ h1, fun c => ?_⟩
  have c2 := q_nle c
  have v : vp_in (s0.1 1) 80 := vi (by omega) (by omega)
  refine ⟨v, v, v, v, v, k _ ⟨?_, ar_upd h1.2.1 h2.1 h2.2, ?_⟩⟩
  · show 0 ≤ (s0.1 0).toInt ∧ (s0.1 0).toInt ≤ 3 ∧ 0 ≤ (s0.1 1 + 1).toInt ∧ (s0.1 1 + 1).toInt ≤ 80
    omega
  · intro j hj hk
    have hj2 : (j : Int) < (s0.1 1 + 1).toInt := hj
    have hk2 : ((if j = Int32.toNatClampNeg (s0.1 1) then x1 else s0.2 0 j)).toInt = 6 ∨ ((if j = Int32.toNatClampNeg (s0.1 1) then x1 else s0.2 0 j)).toInt = 9 := hk
    show ((if j = Int32.toNatClampNeg (s0.1 1) then x2 else s0.2 1 j)).toInt < R
    have ti := tn_i (s0.1 1)
    by_cases e : j = Int32.toNatClampNeg (s0.1 1)
    · rw [if_pos e] at hk2 ⊢
      omega
    · rw [if_neg e] at hk2 ⊢
      exact h1.2.2 j (by omega) hk2
theorem wq_X4_readStep {post : Pg → Tp → Prop} {s0 : Pg} {s1 : Tp} {s2 : Bd} {x1 : Int32} {R N W : Int} (h2765 : pg (R) s0) (h2766 : tj (N) s1) (h2767 : bi (R) (W) s2) (k : ∀ (ua : Pg) (ub : Tp), pg (R) ua → tk (N) ub → post ua ub) : wp_X4_readStep post s0 s1 s2 x1 := by
  unfold wp_X4_readStep
  have := h2765.1
  have := h2766.1
  have := h2766.2.1
  have := h2766.2.2
  have := h2767.1
  have := h2767.2.1
  have := h2767.2.2.1
  have := h2767.2.2.2.1
  have := h2767.2.2.2.2.2.2.2.2.2
  refine ⟨fun c2768 => ?_, fun c2769 => ?_⟩
  · replace c2768 := q_eq c2768
    rw [li_6] at c2768
    have p2770 : (s1.1 0).toInt = N := by omega
    have p2771 : 0 ≤ (s1.1 1).toInt ∧ (s1.1 1).toInt ≤ N ∧ 0 ≤ (s1.1 2).toInt ∧ (s1.1 2).toInt ≤ (s1.1 1).toInt ∧ 0 ≤ (s1.1 5).toInt ∧ (s1.1 5).toInt ≤ 5000 := by omega
    have p2772 : 0 ≤ N ∧ N ≤ 400 := by omega
    have B2773 : tj (N) ((va_up s1.1 4 0), s1.2) := ⟨p2770, p2771, p2772⟩
    refine wq_X5_takeNumber B2773 (fun r_2 u_3 q2774 q2775 q2776 => ?_)
    have := q2774.1
    have := q2774.2.1
    replace q2775 : (u_3.1 5).toInt ≠ 0 ∨ ((s1.1 5).toInt = 0 ∧ ((0 : Int32)).toInt ≤ (r_2).toInt ∧ (r_2).toInt ≤ ((s2.1 0) - 1).toInt) := q2775
    try simp only [li_0] at q2775
    have e2777 := tq_subr li_1 (s2.1 0)
    try rw [Int.emod_eq_of_lt (show 0 ≤ (s2.1 0).toInt - 1 + 2147483648 by omega) (show (s2.1 0).toInt - 1 + 2147483648 < 4294967296 by omega)] at e2777
    replace q2776 : (r_2).toInt = ((0 : Int32)).toInt ∨ (((0 : Int32)).toInt ≤ (r_2).toInt ∧ (r_2).toInt ≤ ((s2.1 0) - 1).toInt) := q2776
    try simp only [li_0] at q2776
    refine wq_X5_takeQuoted q2774 (fun u_5 q2778 q2779 q2780 => ?_)
    have := q2778.1
    have := q2778.2.1
    refine wq_X5_isSound (fun r_6 q2781 => ?_)
    refine ⟨fun c2782 => ?_, fun c2783 => ?_⟩
    · replace c2782 := q_eq c2782
      rw [li_0] at c2782
      exact k _ _ h2765 q2778
    · replace c2783 := q_neq c2783
      rw [li_0] at c2783
      have p2784 : 0 ≤ (r_2).toInt ∧ (r_2).toInt ≤ 99 := by omega
      have p2785 : ((x1).toInt ≠ 6 ∧ (x1).toInt ≠ 9) ∨ (r_2).toInt < R := by omega
      refine wq_X4_addStep h2765 p2784 p2785 (fun u_10 q2786 => ?_)
      have := q2786.1
      exact k _ _ q2786 q2778
  · replace c2769 := q_neq c2769
    rw [li_6] at c2769
    refine ⟨fun c2787 => ?_, fun c2788 => ?_⟩
    · replace c2787 := q_eq c2787
      rw [li_7] at c2787
      refine wq_X0_cells h2767 (fun r_12 q2789 => ?_)
      have p2790 : (s1.1 0).toInt = N := by omega
      have p2791 : 0 ≤ (s1.1 1).toInt ∧ (s1.1 1).toInt ≤ N ∧ 0 ≤ (s1.1 2).toInt ∧ (s1.1 2).toInt ≤ (s1.1 1).toInt ∧ 0 ≤ (s1.1 5).toInt ∧ (s1.1 5).toInt ≤ 5000 := by omega
      have p2792 : 0 ≤ N ∧ N ≤ 400 := by omega
      have B2793 : tj (N) ((va_up s1.1 4 0), s1.2) := ⟨p2790, p2791, p2792⟩
      refine wq_X5_takeNumber B2793 (fun r_14 u_15 q2794 q2795 q2796 => ?_)
      have := q2794.1
      have := q2794.2.1
      replace q2795 : (u_15.1 5).toInt ≠ 0 ∨ ((s1.1 5).toInt = 0 ∧ ((0 : Int32)).toInt ≤ (r_14).toInt ∧ (r_14).toInt ≤ (r_12 - 1).toInt) := q2795
      try simp only [li_0] at q2795
      have e2797 := tq_subr li_1 r_12
      try rw [Int.emod_eq_of_lt (show 0 ≤ (r_12).toInt - 1 + 2147483648 by omega) (show (r_12).toInt - 1 + 2147483648 < 4294967296 by omega)] at e2797
      replace q2796 : (r_14).toInt = ((0 : Int32)).toInt ∨ (((0 : Int32)).toInt ≤ (r_14).toInt ∧ (r_14).toInt ≤ (r_12 - 1).toInt) := q2796
      try simp only [li_0] at q2796
      refine wq_X5_takeNumber q2794 (fun r_16 u_17 q2798 q2799 q2800 => ?_)
      have := q2798.1
      have := q2798.2.1
      try simp only [li_0, li_9] at q2799
      try simp only [li_0, li_9] at q2800
      refine wq_X5_isSound (fun r_18 q2801 => ?_)
      refine ⟨fun c2802 => ?_, fun c2803 => ?_⟩
      · replace c2802 := q_eq c2802
        rw [li_0] at c2802
        have p2804 : (u_17.1 0).toInt = N := by omega
        have p2805 : 0 ≤ (u_17.1 1).toInt ∧ (u_17.1 1).toInt ≤ N + 1 ∧ 0 ≤ (u_17.1 2).toInt ∧ (u_17.1 2).toInt ≤ (u_17.1 1).toInt ∧ ((u_17.1 5).toInt ≠ 0 ∨ (u_17.1 1).toInt ≤ N) ∧ 0 ≤ (u_17.1 5).toInt ∧ (u_17.1 5).toInt ≤ 5000 := by omega
        have p2806 : 0 ≤ N ∧ N ≤ 400 := by omega
        have B2807 : tk (N) u_17 := ⟨p2804, p2805, p2806⟩
        exact k _ _ h2765 B2807
      · replace c2803 := q_neq c2803
        rw [li_0] at c2803
        have p2808 : 0 ≤ (r_14).toInt ∧ (r_14).toInt ≤ 99 := by omega
        have p2809 : ((x1).toInt ≠ 6 ∧ (x1).toInt ≠ 9) ∨ (r_14).toInt < R := by omega
        refine wq_X4_addStep h2765 p2808 p2809 (fun u_22 q2810 => ?_)
        have := q2810.1
        have p2811 : (u_17.1 0).toInt = N := by omega
        have p2812 : 0 ≤ (u_17.1 1).toInt ∧ (u_17.1 1).toInt ≤ N + 1 ∧ 0 ≤ (u_17.1 2).toInt ∧ (u_17.1 2).toInt ≤ (u_17.1 1).toInt ∧ ((u_17.1 5).toInt ≠ 0 ∨ (u_17.1 1).toInt ≤ N) ∧ 0 ≤ (u_17.1 5).toInt ∧ (u_17.1 5).toInt ≤ 5000 := by omega
        have p2813 : 0 ≤ N ∧ N ≤ 400 := by omega
        have B2814 : tk (N) u_17 := ⟨p2811, p2812, p2813⟩
        exact k _ _ q2810 B2814
    · replace c2788 := q_neq c2788
      rw [li_7] at c2788
      refine ⟨fun c2815 => ?_, fun c2816 => ?_⟩
      · replace c2815 := q_eq c2815
        rw [li_8] at c2815
        have p2817 : (s1.1 0).toInt = N := by omega
        have p2818 : 0 ≤ (s1.1 1).toInt ∧ (s1.1 1).toInt ≤ N ∧ 0 ≤ (s1.1 2).toInt ∧ (s1.1 2).toInt ≤ (s1.1 1).toInt ∧ 0 ≤ (s1.1 5).toInt ∧ (s1.1 5).toInt ≤ 5000 := by omega
        have p2819 : 0 ≤ N ∧ N ≤ 400 := by omega
        have B2820 : tj (N) ((va_up s1.1 4 0), s1.2) := ⟨p2817, p2818, p2819⟩
        refine wq_X5_takeQuoted B2820 (fun u_25 q2821 q2822 q2823 => ?_)
        have := q2821.1
        have := q2821.2.1
        replace q2822 : (u_25.1 5).toInt ≠ 0 ∨ (s1.1 5).toInt = 0 := q2822
        replace q2823 : 0 ≤ (u_25.1 4).toInt ∧ (u_25.1 4).toInt ≤ 400 := q2823
        refine wq_X5_isSound (fun r_26 q2824 => ?_)
        refine ⟨fun c2825 => ?_, fun c2826 => ?_⟩
        · replace c2825 := q_eq c2825
          rw [li_0] at c2825
          exact k _ _ h2765 q2821
        · replace c2826 := q_neq c2826
          rw [li_0] at c2826
          have p2827 : 0 ≤ ((0 : Int32)).toInt ∧ ((0 : Int32)).toInt ≤ 99 := by (have := li_0; omega)
          have p2828 : ((x1).toInt ≠ 6 ∧ (x1).toInt ≠ 9) ∨ ((0 : Int32)).toInt < R := by (have := li_0; omega)
          refine wq_X4_addStep h2765 p2827 p2828 (fun u_30 q2829 => ?_)
          have := q2829.1
          exact k _ _ q2829 q2821
      · replace c2816 := q_neq c2816
        rw [li_8] at c2816
        refine ⟨fun c2830 => ?_, fun c2831 => ?_⟩
        · replace c2830 := q_eq c2830
          rw [li_9] at c2830
          have p2832 : (s1.1 0).toInt = N := by omega
          have p2833 : 0 ≤ (s1.1 1).toInt ∧ (s1.1 1).toInt ≤ N ∧ 0 ≤ (s1.1 2).toInt ∧ (s1.1 2).toInt ≤ (s1.1 1).toInt ∧ 0 ≤ (s1.1 5).toInt ∧ (s1.1 5).toInt ≤ 5000 := by omega
          have p2834 : 0 ≤ N ∧ N ≤ 400 := by omega
          have B2835 : tj (N) ((va_up s1.1 4 0), s1.2) := ⟨p2832, p2833, p2834⟩
          refine wq_X5_takeNumber B2835 (fun r_32 u_33 q2836 q2837 q2838 => ?_)
          have := q2836.1
          have := q2836.2.1
          replace q2837 : (u_33.1 5).toInt ≠ 0 ∨ ((s1.1 5).toInt = 0 ∧ ((0 : Int32)).toInt ≤ (r_32).toInt ∧ (r_32).toInt ≤ ((s2.1 0) - 1).toInt) := q2837
          try simp only [li_0] at q2837
          have e2839 := tq_subr li_1 (s2.1 0)
          try rw [Int.emod_eq_of_lt (show 0 ≤ (s2.1 0).toInt - 1 + 2147483648 by omega) (show (s2.1 0).toInt - 1 + 2147483648 < 4294967296 by omega)] at e2839
          replace q2838 : (r_32).toInt = ((0 : Int32)).toInt ∨ (((0 : Int32)).toInt ≤ (r_32).toInt ∧ (r_32).toInt ≤ ((s2.1 0) - 1).toInt) := q2838
          try simp only [li_0] at q2838
          refine wq_X5_isSound (fun r_34 q2840 => ?_)
          refine ⟨fun c2841 => ?_, fun c2842 => ?_⟩
          · replace c2841 := q_eq c2841
            rw [li_0] at c2841
            have p2843 : (u_33.1 0).toInt = N := by omega
            have p2844 : 0 ≤ (u_33.1 1).toInt ∧ (u_33.1 1).toInt ≤ N + 1 ∧ 0 ≤ (u_33.1 2).toInt ∧ (u_33.1 2).toInt ≤ (u_33.1 1).toInt ∧ ((u_33.1 5).toInt ≠ 0 ∨ (u_33.1 1).toInt ≤ N) ∧ 0 ≤ (u_33.1 5).toInt ∧ (u_33.1 5).toInt ≤ 5000 := by omega
            have p2845 : 0 ≤ N ∧ N ≤ 400 := by omega
            have B2846 : tk (N) u_33 := ⟨p2843, p2844, p2845⟩
            exact k _ _ h2765 B2846
          · replace c2842 := q_neq c2842
            rw [li_0] at c2842
            have p2847 : 0 ≤ (r_32).toInt ∧ (r_32).toInt ≤ 99 := by omega
            have p2848 : ((x1).toInt ≠ 6 ∧ (x1).toInt ≠ 9) ∨ (r_32).toInt < R := by omega
            refine wq_X4_addStep h2765 p2847 p2848 (fun u_38 q2849 => ?_)
            have := q2849.1
            have p2850 : (u_33.1 0).toInt = N := by omega
            have p2851 : 0 ≤ (u_33.1 1).toInt ∧ (u_33.1 1).toInt ≤ N + 1 ∧ 0 ≤ (u_33.1 2).toInt ∧ (u_33.1 2).toInt ≤ (u_33.1 1).toInt ∧ ((u_33.1 5).toInt ≠ 0 ∨ (u_33.1 1).toInt ≤ N) ∧ 0 ≤ (u_33.1 5).toInt ∧ (u_33.1 5).toInt ≤ 5000 := by omega
            have p2852 : 0 ≤ N ∧ N ≤ 400 := by omega
            have B2853 : tk (N) u_33 := ⟨p2850, p2851, p2852⟩
            exact k _ _ q2849 B2853
        · replace c2831 := q_neq c2831
          rw [li_9] at c2831
          refine ⟨fun c2854 => ?_, fun c2855 => ?_⟩
          · replace c2854 := q_eq c2854
            rw [li_10] at c2854
            have p2856 : (s1.1 0).toInt = N := by omega
            have p2857 : 0 ≤ (s1.1 1).toInt ∧ (s1.1 1).toInt ≤ N ∧ 0 ≤ (s1.1 2).toInt ∧ (s1.1 2).toInt ≤ (s1.1 1).toInt ∧ 0 ≤ (s1.1 5).toInt ∧ (s1.1 5).toInt ≤ 5000 := by omega
            have p2858 : 0 ≤ N ∧ N ≤ 400 := by omega
            have B2859 : tj (N) ((va_up s1.1 4 0), s1.2) := ⟨p2856, p2857, p2858⟩
            refine wq_X5_takeNumber B2859 (fun r_40 u_41 q2860 q2861 q2862 => ?_)
            have := q2860.1
            have := q2860.2.1
            replace q2861 : (u_41.1 5).toInt ≠ 0 ∨ ((s1.1 5).toInt = 0 ∧ ((1 : Int32)).toInt ≤ (r_40).toInt ∧ (r_40).toInt ≤ ((99 : Int32)).toInt) := q2861
            try simp only [li_1, li_99] at q2861
            replace q2862 : (r_40).toInt = ((1 : Int32)).toInt ∨ (((1 : Int32)).toInt ≤ (r_40).toInt ∧ (r_40).toInt ≤ ((99 : Int32)).toInt) := q2862
            try simp only [li_1, li_99] at q2862
            refine wq_X5_isSound (fun r_42 q2863 => ?_)
            refine ⟨fun c2864 => ?_, fun c2865 => ?_⟩
            · replace c2864 := q_eq c2864
              rw [li_0] at c2864
              have p2866 : (u_41.1 0).toInt = N := by omega
              have p2867 : 0 ≤ (u_41.1 1).toInt ∧ (u_41.1 1).toInt ≤ N + 1 ∧ 0 ≤ (u_41.1 2).toInt ∧ (u_41.1 2).toInt ≤ (u_41.1 1).toInt ∧ ((u_41.1 5).toInt ≠ 0 ∨ (u_41.1 1).toInt ≤ N) ∧ 0 ≤ (u_41.1 5).toInt ∧ (u_41.1 5).toInt ≤ 5000 := by omega
              have p2868 : 0 ≤ N ∧ N ≤ 400 := by omega
              have B2869 : tk (N) u_41 := ⟨p2866, p2867, p2868⟩
              exact k _ _ h2765 B2869
            · replace c2865 := q_neq c2865
              rw [li_0] at c2865
              have p2870 : 0 ≤ (r_40).toInt ∧ (r_40).toInt ≤ 99 := by omega
              have p2871 : ((x1).toInt ≠ 6 ∧ (x1).toInt ≠ 9) ∨ (r_40).toInt < R := by omega
              refine wq_X4_addStep h2765 p2870 p2871 (fun u_46 q2872 => ?_)
              have := q2872.1
              have p2873 : (u_41.1 0).toInt = N := by omega
              have p2874 : 0 ≤ (u_41.1 1).toInt ∧ (u_41.1 1).toInt ≤ N + 1 ∧ 0 ≤ (u_41.1 2).toInt ∧ (u_41.1 2).toInt ≤ (u_41.1 1).toInt ∧ ((u_41.1 5).toInt ≠ 0 ∨ (u_41.1 1).toInt ≤ N) ∧ 0 ≤ (u_41.1 5).toInt ∧ (u_41.1 5).toInt ≤ 5000 := by omega
              have p2875 : 0 ≤ N ∧ N ≤ 400 := by omega
              have B2876 : tk (N) u_41 := ⟨p2873, p2874, p2875⟩
              exact k _ _ q2872 B2876
          · replace c2855 := q_neq c2855
            rw [li_10] at c2855
            refine ⟨fun c2877 => ?_, fun c2878 => ?_⟩
            · replace c2877 := q_eq c2877
              rw [li_11] at c2877
              refine wq_X5_isSound (fun r_48 q2879 => ?_)
              replace q2879 : ((r_48).toInt = 1 ∧ (s1.1 5).toInt = 0) ∨ ((r_48).toInt = 0 ∧ (s1.1 5).toInt ≠ 0) := q2879
              refine ⟨fun c2880 => ?_, fun c2881 => ?_⟩
              · replace c2880 := q_eq c2880
                rw [li_0] at c2880
                have p2882 : (s1.1 0).toInt = N := by omega
                have p2883 : 0 ≤ (s1.1 1).toInt ∧ (s1.1 1).toInt ≤ N + 1 ∧ 0 ≤ (s1.1 2).toInt ∧ (s1.1 2).toInt ≤ (s1.1 1).toInt ∧ ((s1.1 5).toInt ≠ 0 ∨ (s1.1 1).toInt ≤ N) ∧ 0 ≤ (s1.1 5).toInt ∧ (s1.1 5).toInt ≤ 5000 := by omega
                have p2884 : 0 ≤ N ∧ N ≤ 400 := by omega
                have B2885 : tk (N) ((va_up s1.1 4 0), s1.2) := ⟨p2882, p2883, p2884⟩
                exact k _ _ h2765 B2885
              · replace c2881 := q_neq c2881
                rw [li_0] at c2881
                have p2886 : 0 ≤ ((0 : Int32)).toInt ∧ ((0 : Int32)).toInt ≤ 99 := by (have := li_0; omega)
                have p2887 : ((x1).toInt ≠ 6 ∧ (x1).toInt ≠ 9) ∨ ((0 : Int32)).toInt < R := by (have := li_0; omega)
                refine wq_X4_addStep h2765 p2886 p2887 (fun u_52 q2888 => ?_)
                have := q2888.1
                have p2889 : (s1.1 0).toInt = N := by omega
                have p2890 : 0 ≤ (s1.1 1).toInt ∧ (s1.1 1).toInt ≤ N + 1 ∧ 0 ≤ (s1.1 2).toInt ∧ (s1.1 2).toInt ≤ (s1.1 1).toInt ∧ ((s1.1 5).toInt ≠ 0 ∨ (s1.1 1).toInt ≤ N) ∧ 0 ≤ (s1.1 5).toInt ∧ (s1.1 5).toInt ≤ 5000 := by omega
                have p2891 : 0 ≤ N ∧ N ≤ 400 := by omega
                have B2892 : tk (N) ((va_up s1.1 4 0), s1.2) := ⟨p2889, p2890, p2891⟩
                exact k _ _ q2888 B2892
            · replace c2878 := q_neq c2878
              rw [li_11] at c2878
              refine ⟨fun c2893 => ?_, fun c2894 => ?_⟩
              · replace c2893 := q_eq c2893
                rw [li_12] at c2893
                have p2895 : (s1.1 0).toInt = N := by omega
                have p2896 : 0 ≤ (s1.1 1).toInt ∧ (s1.1 1).toInt ≤ N ∧ 0 ≤ (s1.1 2).toInt ∧ (s1.1 2).toInt ≤ (s1.1 1).toInt ∧ 0 ≤ (s1.1 5).toInt ∧ (s1.1 5).toInt ≤ 5000 := by omega
                have p2897 : 0 ≤ N ∧ N ≤ 400 := by omega
                have B2898 : tj (N) ((va_up s1.1 4 0), s1.2) := ⟨p2895, p2896, p2897⟩
                refine wq_X5_takeNumber B2898 (fun r_54 u_55 q2899 q2900 q2901 => ?_)
                have := q2899.1
                have := q2899.2.1
                replace q2900 : (u_55.1 5).toInt ≠ 0 ∨ ((s1.1 5).toInt = 0 ∧ ((0 : Int32)).toInt ≤ (r_54).toInt ∧ (r_54).toInt ≤ ((20 : Int32)).toInt) := q2900
                try simp only [li_0, li_20] at q2900
                replace q2901 : (r_54).toInt = ((0 : Int32)).toInt ∨ (((0 : Int32)).toInt ≤ (r_54).toInt ∧ (r_54).toInt ≤ ((20 : Int32)).toInt) := q2901
                try simp only [li_0, li_20] at q2901
                refine wq_X4_openTimes h2765 q2899 (fun u_57a u_57b q2902 q2903 => ?_)
                have := q2902.1
                have := q2903.1
                have := q2903.2.1
                refine wq_X5_isSound (fun r_58 q2904 => ?_)
                refine ⟨fun c2905 => ?_, fun c2906 => ?_⟩
                · replace c2905 := q_eq c2905
                  rw [li_0] at c2905
                  have p2907 : (u_57b.1 0).toInt = N := by omega
                  have p2908 : 0 ≤ (u_57b.1 1).toInt ∧ (u_57b.1 1).toInt ≤ N + 1 ∧ 0 ≤ (u_57b.1 2).toInt ∧ (u_57b.1 2).toInt ≤ (u_57b.1 1).toInt ∧ ((u_57b.1 5).toInt ≠ 0 ∨ (u_57b.1 1).toInt ≤ N) ∧ 0 ≤ (u_57b.1 5).toInt ∧ (u_57b.1 5).toInt ≤ 5000 := by omega
                  have p2909 : 0 ≤ N ∧ N ≤ 400 := by omega
                  have B2910 : tk (N) u_57b := ⟨p2907, p2908, p2909⟩
                  exact k _ _ q2902 B2910
                · replace c2906 := q_neq c2906
                  rw [li_0] at c2906
                  have p2911 : 0 ≤ (r_54).toInt ∧ (r_54).toInt ≤ 99 := by omega
                  have p2912 : ((x1).toInt ≠ 6 ∧ (x1).toInt ≠ 9) ∨ (r_54).toInt < R := by omega
                  refine wq_X4_addStep q2902 p2911 p2912 (fun u_62 q2913 => ?_)
                  have := q2913.1
                  have p2914 : (u_57b.1 0).toInt = N := by omega
                  have p2915 : 0 ≤ (u_57b.1 1).toInt ∧ (u_57b.1 1).toInt ≤ N + 1 ∧ 0 ≤ (u_57b.1 2).toInt ∧ (u_57b.1 2).toInt ≤ (u_57b.1 1).toInt ∧ ((u_57b.1 5).toInt ≠ 0 ∨ (u_57b.1 1).toInt ≤ N) ∧ 0 ≤ (u_57b.1 5).toInt ∧ (u_57b.1 5).toInt ≤ 5000 := by omega
                  have p2916 : 0 ≤ N ∧ N ≤ 400 := by omega
                  have B2917 : tk (N) u_57b := ⟨p2914, p2915, p2916⟩
                  exact k _ _ q2913 B2917
              · replace c2894 := q_neq c2894
                rw [li_12] at c2894
                have p2918 : (s1.1 0).toInt = N := by omega
                have p2919 : 0 ≤ (s1.1 1).toInt ∧ (s1.1 1).toInt ≤ N + 1 ∧ 0 ≤ (s1.1 2).toInt ∧ (s1.1 2).toInt ≤ (s1.1 1).toInt ∧ ((s1.1 5).toInt ≠ 0 ∨ (s1.1 1).toInt ≤ N) ∧ 0 ≤ (s1.1 5).toInt ∧ (s1.1 5).toInt ≤ 5000 := by omega
                have p2920 : 0 ≤ N ∧ N ≤ 400 := by omega
                have B2921 : tk (N) ((va_up s1.1 4 0), s1.2) := ⟨p2918, p2919, p2920⟩
                have p2922 : 0 ≤ (s1.1 2).toInt ∧ (s1.1 2).toInt ≤ 500 ∧ 1 ≤ ((1 : Int32)).toInt ∧ ((1 : Int32)).toInt ≤ 4 := by (have := li_1; omega)
                refine wq_X5_blame B2921 p2922 (fun u_64 q2923 q2924 q2925 q2926 q2927 q2928 => ?_)
                have := q2923.1
                have := q2923.2.1
                replace q2924 : (u_64.1 1).toInt = (s1.1 1).toInt := q2924
                replace q2925 : (u_64.1 2).toInt = (s1.1 2).toInt := q2925
                replace q2926 : (u_64.1 3).toInt = (s1.1 3).toInt := q2926
                replace q2927 : (u_64.1 4).toInt = (0 : Int32).toInt := q2927
                try simp only [li_0] at q2927
                replace q2928 : ¬ (u_64.1 5).toInt = 0 := q2928
                refine wq_X5_isSound (fun r_65 q2929 => ?_)
                refine ⟨fun c2930 => ?_, fun c2931 => ?_⟩
                · replace c2930 := q_eq c2930
                  rw [li_0] at c2930
                  exact k _ _ h2765 q2923
                · replace c2931 := q_neq c2931
                  rw [li_0] at c2931
                  have p2932 : 0 ≤ ((0 : Int32)).toInt ∧ ((0 : Int32)).toInt ≤ 99 := by (have := li_0; omega)
                  have p2933 : ((x1).toInt ≠ 6 ∧ (x1).toInt ≠ 9) ∨ ((0 : Int32)).toInt < R := by (have := li_0; omega)
                  refine wq_X4_addStep h2765 p2932 p2933 (fun u_69 q2934 => ?_)
                  have := q2934.1
                  exact k _ _ q2934 q2923
theorem wq_X4_closeTimes {post : Pg → Prop} {s0 : Pg} {x1 : Int32} {R : Int} (h2935 : pg (R) s0) (k : ∀ (u : Pg), pg (R) u → post u) : wp_X4_closeTimes post s0 x1 := by
  unfold wp_X4_closeTimes
  have := h2935.1
  refine wq_X4_hasStep h2935 (fun r_1 q2936 => ?_)
  refine ⟨fun c2937 => ?_, fun c2938 => ?_⟩
  · replace c2937 := q_eq c2937
    rw [li_0] at c2937
    exact k _ h2935
  · replace c2938 := q_neq c2938
    rw [li_0] at c2938
    have v2939 : vp_in x1 80 := vi (by omega) (by omega)
    refine ⟨v2939, ?_⟩
    have p2940 : 0 ≤ (s0.1 0).toInt ∧ (s0.1 0).toInt ≤ 3 ∧ 0 ≤ (s0.1 1).toInt ∧ (s0.1 1).toInt ≤ 80 := by omega
    have p2941 : ar 80 (0) (99) (s0.2 1) := h2935.2.1
    have B2942 : pg (R) (s0.1, (va_up s0.2 4 (upd (s0.2 4) (Int32.toNatClampNeg x1) (s0.1 1)))) := ⟨p2940, p2941, h2935.2.2⟩
    exact k _ B2942
theorem wq_X4_goesOn_L2 {post : Int32 → Pg → Tp → Prop} {e105 : Pg → Tp → Int32 → Prop} {R N : Int} (ke105 : ∀ (t0 : Pg) (t1 : Tp) (z2 : Int32), pg (R) t0 → tj (N) t1 → 0 ≤ (z2).toInt ∧ (z2).toInt ≤ 4 → e105 t0 t1 z2) (k : ∀ (r : Int32) (ua : Pg) (ub : Tp), pg (R) ua → tk (N) ub → (r).toInt = 0 ∨ (ub.1 1).toInt ≤ N → post r ua ub) : ∀ (n : Nat) (t0 : Pg) (t1 : Tp) (z2 : Int32), pg (R) t0 → tj (N) t1 → 0 ≤ (z2).toInt ∧ (z2).toInt ≤ 4 → 4 - (z2).toInt < (n : Int) → wp_X4_goesOn_L2 post e105 n t0 t1 z2 := by
  intro n
  induction n with
  | zero =>
    intro t0 t1 z2 i2943 i2944 i2945 i2946
    have := i2943.1
    have := i2944.1
    have := i2944.2.1
    have := i2944.2.2
    exfalso
    omega
  | succ n ih =>
    intro t0 t1 z2 i2943 i2944 i2945 i2946
    unfold wp_X4_goesOn_L2
    have := i2943.1
    have := i2944.1
    have := i2944.2.1
    have := i2944.2.2
    refine ⟨fun c2947 => ?_, fun c2948 => ?_⟩
    · replace c2947 := q_lt c2947
      rw [li_3] at c2947
      have p2949 : 0 ≤ (z2).toInt ∧ (z2).toInt ≤ 4 := by omega
      exact ke105 _ _ _ i2943 i2944 p2949
    · replace c2948 := q_nlt c2948
      rw [li_3] at c2948
      refine wq_X5_peek i2944 (fun r_2 u_3 q2950 q2951 q2952 q2953 q2954 q2955 q2956 q2957 q2958 q2959 => ?_)
      have := q2950.1
      have := q2950.2.1
      refine ⟨fun c2960 => ?_, fun c2961 => ?_⟩
      · replace c2960 := q_neq c2960
        rw [li_59] at c2960
        refine ⟨fun c2962 => ?_, fun c2963 => ?_⟩
        · replace c2962 := q_neq c2962
          rw [li_41] at c2962
          refine ⟨fun c2964 => ?_, fun c2965 => ?_⟩
          · replace c2964 := q_neq c2964
            rw [li_m1] at c2964
            have p2966 : (u_3.1 0).toInt = N := by omega
            have p2967 : 0 ≤ (u_3.1 1).toInt ∧ (u_3.1 1).toInt ≤ N + 1 ∧ 0 ≤ (u_3.1 2).toInt ∧ (u_3.1 2).toInt ≤ (u_3.1 1).toInt ∧ ((u_3.1 5).toInt ≠ 0 ∨ (u_3.1 1).toInt ≤ N) ∧ 0 ≤ (u_3.1 5).toInt ∧ (u_3.1 5).toInt ≤ 5000 := by omega
            have p2968 : 0 ≤ N ∧ N ≤ 400 := by omega
            have B2969 : tk (N) u_3 := ⟨p2966, p2967, p2968⟩
            have p2970 : 0 ≤ (u_3.1 1).toInt ∧ (u_3.1 1).toInt ≤ 500 ∧ 1 ≤ ((1 : Int32)).toInt ∧ ((1 : Int32)).toInt ≤ 4 := by (have := li_1; omega)
            refine wq_X5_blame B2969 p2970 (fun u_8 q2971 q2972 q2973 q2974 q2975 q2976 => ?_)
            have := q2971.1
            have := q2971.2.1
            have p2977 : (0 : Int32).toInt = 0 ∨ (u_8.1 1).toInt ≤ N := by (have := li_0; omega)
            exact k _ _ _ i2943 q2971 p2977
          · replace c2965 := q_eq c2965
            rw [li_m1] at c2965
            refine ⟨fun c2978 => ?_, fun c2979 => ?_⟩
            · replace c2978 := q_le c2978
              rw [li_0] at c2978
              have p2980 : (u_3.1 0).toInt = N := by omega
              have p2981 : 0 ≤ (u_3.1 1).toInt ∧ (u_3.1 1).toInt ≤ N + 1 ∧ 0 ≤ (u_3.1 2).toInt ∧ (u_3.1 2).toInt ≤ (u_3.1 1).toInt ∧ ((u_3.1 5).toInt ≠ 0 ∨ (u_3.1 1).toInt ≤ N) ∧ 0 ≤ (u_3.1 5).toInt ∧ (u_3.1 5).toInt ≤ 5000 := by omega
              have p2982 : 0 ≤ N ∧ N ≤ 400 := by omega
              have B2983 : tk (N) u_3 := ⟨p2980, p2981, p2982⟩
              have p2984 : (0 : Int32).toInt = 0 ∨ (u_3.1 1).toInt ≤ N := by (have := li_0; omega)
              exact k _ _ _ i2943 B2983 p2984
            · replace c2979 := q_nle c2979
              rw [li_0] at c2979
              have p2985 : (u_3.1 0).toInt = N := by omega
              have p2986 : 0 ≤ (u_3.1 1).toInt ∧ (u_3.1 1).toInt ≤ N + 1 ∧ 0 ≤ (u_3.1 2).toInt ∧ (u_3.1 2).toInt ≤ (u_3.1 1).toInt ∧ ((u_3.1 5).toInt ≠ 0 ∨ (u_3.1 1).toInt ≤ N) ∧ 0 ≤ (u_3.1 5).toInt ∧ (u_3.1 5).toInt ≤ 5000 := by omega
              have p2987 : 0 ≤ N ∧ N ≤ 400 := by omega
              have B2988 : tk (N) u_3 := ⟨p2985, p2986, p2987⟩
              have p2989 : 0 ≤ (u_3.1 1).toInt ∧ (u_3.1 1).toInt ≤ 500 ∧ 1 ≤ ((1 : Int32)).toInt ∧ ((1 : Int32)).toInt ≤ 4 := by (have := li_1; omega)
              refine wq_X5_blame B2988 p2989 (fun u_11 q2990 q2991 q2992 q2993 q2994 q2995 => ?_)
              have := q2990.1
              have := q2990.2.1
              have p2996 : (0 : Int32).toInt = 0 ∨ (u_11.1 1).toInt ≤ N := by (have := li_0; omega)
              exact k _ _ _ i2943 q2990 p2996
        · replace c2963 := q_eq c2963
          rw [li_41] at c2963
          refine ⟨fun c2997 => ?_, fun c2998 => ?_⟩
          · replace c2997 := q_lt c2997
            rw [li_0] at c2997
            have e2999 := tq_subr li_1 (t0.1 0)
            try rw [Int.emod_eq_of_lt (show 0 ≤ (t0.1 0).toInt - 1 + 2147483648 by omega) (show (t0.1 0).toInt - 1 + 2147483648 < 4294967296 by omega)] at e2999
            have v3000 : vp_in ((t0.1 0) - 1) 3 := vi (by omega) (by omega)
            refine ⟨v3000, ?_⟩
            have p3001 : 0 ≤ ((t0.1 0) - 1).toInt ∧ ((t0.1 0) - 1).toInt ≤ 3 ∧ 0 ≤ (t0.1 1).toInt ∧ (t0.1 1).toInt ≤ 80 := by omega
            have p3002 : ar 80 (0) (99) (t0.2 1) := i2943.2.1
            have B3003 : pg (R) ((va_up t0.1 0 ((t0.1 0) - 1)), t0.2) := ⟨p3001, p3002, i2943.2.2⟩
            refine wq_X4_closeTimes B3003 (fun u_15 q3004 => ?_)
            have := q3004.1
            have p3005 : (u_3.1 0).toInt = N := by omega
            have e3006 := tq_addr li_1 (u_3.1 1)
            try rw [Int.emod_eq_of_lt (show 0 ≤ (u_3.1 1).toInt + 1 + 2147483648 by omega) (show (u_3.1 1).toInt + 1 + 2147483648 < 4294967296 by omega)] at e3006
            have p3007 : 0 ≤ ((u_3.1 1) + 1).toInt ∧ ((u_3.1 1) + 1).toInt ≤ N ∧ 0 ≤ (u_3.1 2).toInt ∧ (u_3.1 2).toInt ≤ ((u_3.1 1) + 1).toInt ∧ 0 ≤ (u_3.1 5).toInt ∧ (u_3.1 5).toInt ≤ 5000 := by omega
            have p3008 : 0 ≤ N ∧ N ≤ 400 := by omega
            have B3009 : tj (N) ((va_up u_3.1 1 ((u_3.1 1) + 1)), u_3.2) := ⟨p3005, p3007, p3008⟩
            have e3010 := tq_addr li_1 z2
            try rw [Int.emod_eq_of_lt (show 0 ≤ (z2).toInt + 1 + 2147483648 by omega) (show (z2).toInt + 1 + 2147483648 < 4294967296 by omega)] at e3010
            have p3011 : 0 ≤ (z2 + 1).toInt ∧ (z2 + 1).toInt ≤ 4 := by omega
            have p3012 : 4 - (z2 + 1).toInt < ((n : Nat) : Int) := by (omega)
            exact ih _ _ _ q3004 B3009 p3011 p3012
          · replace c2998 := q_nlt c2998
            rw [li_0] at c2998
            refine ⟨fun c3013 => ?_, fun c3014 => ?_⟩
            · replace c3013 := q_neq c3013
              rw [li_m1] at c3013
              have p3015 : (u_3.1 0).toInt = N := by omega
              have p3016 : 0 ≤ (u_3.1 1).toInt ∧ (u_3.1 1).toInt ≤ N + 1 ∧ 0 ≤ (u_3.1 2).toInt ∧ (u_3.1 2).toInt ≤ (u_3.1 1).toInt ∧ ((u_3.1 5).toInt ≠ 0 ∨ (u_3.1 1).toInt ≤ N) ∧ 0 ≤ (u_3.1 5).toInt ∧ (u_3.1 5).toInt ≤ 5000 := by omega
              have p3017 : 0 ≤ N ∧ N ≤ 400 := by omega
              have B3018 : tk (N) u_3 := ⟨p3015, p3016, p3017⟩
              have p3019 : 0 ≤ (u_3.1 1).toInt ∧ (u_3.1 1).toInt ≤ 500 ∧ 1 ≤ ((1 : Int32)).toInt ∧ ((1 : Int32)).toInt ≤ 4 := by (have := li_1; omega)
              refine wq_X5_blame B3018 p3019 (fun u_18 q3020 q3021 q3022 q3023 q3024 q3025 => ?_)
              have := q3020.1
              have := q3020.2.1
              have p3026 : (0 : Int32).toInt = 0 ∨ (u_18.1 1).toInt ≤ N := by (have := li_0; omega)
              exact k _ _ _ i2943 q3020 p3026
            · replace c3014 := q_eq c3014
              rw [li_m1] at c3014
              refine ⟨fun c3027 => ?_, fun c3028 => ?_⟩
              · replace c3027 := q_le c3027
                rw [li_0] at c3027
                have p3029 : (u_3.1 0).toInt = N := by omega
                have p3030 : 0 ≤ (u_3.1 1).toInt ∧ (u_3.1 1).toInt ≤ N + 1 ∧ 0 ≤ (u_3.1 2).toInt ∧ (u_3.1 2).toInt ≤ (u_3.1 1).toInt ∧ ((u_3.1 5).toInt ≠ 0 ∨ (u_3.1 1).toInt ≤ N) ∧ 0 ≤ (u_3.1 5).toInt ∧ (u_3.1 5).toInt ≤ 5000 := by omega
                have p3031 : 0 ≤ N ∧ N ≤ 400 := by omega
                have B3032 : tk (N) u_3 := ⟨p3029, p3030, p3031⟩
                have p3033 : (0 : Int32).toInt = 0 ∨ (u_3.1 1).toInt ≤ N := by (have := li_0; omega)
                exact k _ _ _ i2943 B3032 p3033
              · replace c3028 := q_nle c3028
                rw [li_0] at c3028
                have p3034 : (u_3.1 0).toInt = N := by omega
                have p3035 : 0 ≤ (u_3.1 1).toInt ∧ (u_3.1 1).toInt ≤ N + 1 ∧ 0 ≤ (u_3.1 2).toInt ∧ (u_3.1 2).toInt ≤ (u_3.1 1).toInt ∧ ((u_3.1 5).toInt ≠ 0 ∨ (u_3.1 1).toInt ≤ N) ∧ 0 ≤ (u_3.1 5).toInt ∧ (u_3.1 5).toInt ≤ 5000 := by omega
                have p3036 : 0 ≤ N ∧ N ≤ 400 := by omega
                have B3037 : tk (N) u_3 := ⟨p3034, p3035, p3036⟩
                have p3038 : 0 ≤ (u_3.1 1).toInt ∧ (u_3.1 1).toInt ≤ 500 ∧ 1 ≤ ((1 : Int32)).toInt ∧ ((1 : Int32)).toInt ≤ 4 := by (have := li_1; omega)
                refine wq_X5_blame B3037 p3038 (fun u_21 q3039 q3040 q3041 q3042 q3043 q3044 => ?_)
                have := q3039.1
                have := q3039.2.1
                have p3045 : (0 : Int32).toInt = 0 ∨ (u_21.1 1).toInt ≤ N := by (have := li_0; omega)
                exact k _ _ _ i2943 q3039 p3045
      · replace c2961 := q_eq c2961
        rw [li_59] at c2961
        have p3046 : (u_3.1 0).toInt = N := by omega
        have e3047 := tq_addr li_1 (u_3.1 1)
        try rw [Int.emod_eq_of_lt (show 0 ≤ (u_3.1 1).toInt + 1 + 2147483648 by omega) (show (u_3.1 1).toInt + 1 + 2147483648 < 4294967296 by omega)] at e3047
        have p3048 : 0 ≤ ((u_3.1 1) + 1).toInt ∧ ((u_3.1 1) + 1).toInt ≤ N + 1 ∧ 0 ≤ (u_3.1 2).toInt ∧ (u_3.1 2).toInt ≤ ((u_3.1 1) + 1).toInt ∧ ((u_3.1 5).toInt ≠ 0 ∨ ((u_3.1 1) + 1).toInt ≤ N) ∧ 0 ≤ (u_3.1 5).toInt ∧ (u_3.1 5).toInt ≤ 5000 := by omega
        have p3049 : 0 ≤ N ∧ N ≤ 400 := by omega
        have B3050 : tk (N) ((va_up u_3.1 1 ((u_3.1 1) + 1)), u_3.2) := ⟨p3046, p3048, p3049⟩
        have p3051 : (1 : Int32).toInt = 0 ∨ ((u_3.1 1) + 1).toInt ≤ N := by (have := li_1; omega)
        exact k _ _ _ i2943 B3050 p3051
theorem wq_X4_goesOn {post : Int32 → Pg → Tp → Prop} {s0 : Pg} {s1 : Tp} {R N : Int} (h3052 : pg (R) s0) (h3053 : tj (N) s1) (k : ∀ (r : Int32) (ua : Pg) (ub : Tp), pg (R) ua → tk (N) ub → (r).toInt = 0 ∨ (ub.1 1).toInt ≤ N → post r ua ub) : wp_X4_goesOn post s0 s1 := by
  unfold wp_X4_goesOn
  have := h3052.1
  have := h3053.1
  have := h3053.2.1
  have := h3053.2.2
  have p3054 : 0 ≤ (0 : Int32).toInt ∧ (0 : Int32).toInt ≤ 4 := by (have := li_0; omega)
  obtain ⟨f3055, g3056⟩ := fu_e 10
  have p3057 : 4 - (0 : Int32).toInt < (f3055 : Int) := by (have := li_0; omega)
  refine ⟨f3055, wq_X4_goesOn_L2 (fun t0 t1 z2 q3058 q3059 q3060 => ?_) k f3055 _ _ _ h3052 h3053 p3054 p3057⟩
  have := q3058.1
  have := q3059.1
  have := q3059.2.1
  have p3061 : (t1.1 0).toInt = N := by omega
  have p3062 : 0 ≤ (t1.1 1).toInt ∧ (t1.1 1).toInt ≤ N + 1 ∧ 0 ≤ (t1.1 2).toInt ∧ (t1.1 2).toInt ≤ (t1.1 1).toInt ∧ ((t1.1 5).toInt ≠ 0 ∨ (t1.1 1).toInt ≤ N) ∧ 0 ≤ (t1.1 5).toInt ∧ (t1.1 5).toInt ≤ 5000 := by omega
  have p3063 : 0 ≤ N ∧ N ≤ 400 := by omega
  have B3064 : tk (N) t1 := ⟨p3061, p3062, p3063⟩
  have p3065 : (0 : Int32).toInt = 0 ∨ (t1.1 1).toInt ≤ N := by (have := li_0; omega)
  exact k _ _ _ q3058 B3064 p3065
theorem wq_X4_readFrom_L19 {s2 : Bd} {post : Pg → Tp → Prop} {e78 : Pg → Tp → Int32 → Int32 → Prop} {R W N : Int} (h3066 : bi (R) (W) s2) (ke78 : ∀ (t0 : Pg) (t1 : Tp) (z3 : Int32) (z4 : Int32), pg (R) t0 → tk (N) t1 → 0 ≤ (z4).toInt ∧ (z4).toInt ≤ 80 → (z3).toInt = 0 ∨ (t1.1 1).toInt ≤ N → e78 t0 t1 z3 z4) : ∀ (n : Nat) (t0 : Pg) (t1 : Tp) (z3 : Int32) (z4 : Int32), pg (R) t0 → tk (N) t1 → 0 ≤ (z4).toInt ∧ (z4).toInt ≤ 80 → (z3).toInt = 0 ∨ (t1.1 1).toInt ≤ N → 80 - (z4).toInt < (n : Int) → wp_X4_readFrom_L19 s2 post e78 n t0 t1 z3 z4 := by
  have := h3066.1
  have := h3066.2.1
  have := h3066.2.2.1
  have := h3066.2.2.2.1
  have := h3066.2.2.2.2.2.2.2.2.2
  intro n
  induction n with
  | zero =>
    intro t0 t1 z3 z4 i3067 i3068 i3069 i3070 i3071
    have := i3067.1
    have := i3068.1
    have := i3068.2.1
    have := i3068.2.2
    exfalso
    omega
  | succ n ih =>
    intro t0 t1 z3 z4 i3067 i3068 i3069 i3070 i3071
    unfold wp_X4_readFrom_L19
    have := i3067.1
    have := i3068.1
    have := i3068.2.1
    have := i3068.2.2
    refine ⟨fun c3072 => ?_, fun c3073 => ?_⟩
    · replace c3072 := q_le c3072
      rw [li_80] at c3072
      have p3074 : 0 ≤ (z4).toInt ∧ (z4).toInt ≤ 80 := by omega
      have p3075 : (z3).toInt = 0 ∨ (t1.1 1).toInt ≤ N := by omega
      exact ke78 _ _ _ _ i3067 i3068 p3074 p3075
    · replace c3073 := q_nle c3073
      rw [li_80] at c3073
      refine ⟨fun c3076 => ?_, fun c3077 => ?_⟩
      · replace c3076 := q_eq c3076
        rw [li_0] at c3076
        have p3078 : 0 ≤ (z4).toInt ∧ (z4).toInt ≤ 80 := by omega
        have p3079 : (z3).toInt = 0 ∨ (t1.1 1).toInt ≤ N := by omega
        exact ke78 _ _ _ _ i3067 i3068 p3078 p3079
      · replace c3077 := q_neq c3077
        rw [li_0] at c3077
        have p3080 : (t1.1 0).toInt = N := by omega
        have p3081 : 0 ≤ (t1.1 1).toInt ∧ (t1.1 1).toInt ≤ N ∧ 0 ≤ (t1.1 2).toInt ∧ (t1.1 2).toInt ≤ (t1.1 1).toInt ∧ 0 ≤ (t1.1 5).toInt ∧ (t1.1 5).toInt ≤ 5000 := by omega
        have p3082 : 0 ≤ N ∧ N ≤ 400 := by omega
        have B3083 : tj (N) t1 := ⟨p3080, p3081, p3082⟩
        refine wq_X5_takeWord B3083 (fun r_5 u_6 q3084 q3085 q3086 q3087 => ?_)
        have := q3084.1
        have := q3084.2.1
        refine wq_X4_readStep i3067 q3084 h3066 (fun u_8a u_8b q3088 q3089 => ?_)
        have := q3088.1
        have := q3089.1
        have := q3089.2.1
        refine wq_X5_isSound (fun r_9 q3090 => ?_)
        refine ⟨fun c3091 => ?_, fun c3092 => ?_⟩
        · replace c3091 := q_eq c3091
          rw [li_0] at c3091
          have e3093 := tq_addr li_1 z4
          try rw [Int.emod_eq_of_lt (show 0 ≤ (z4).toInt + 1 + 2147483648 by omega) (show (z4).toInt + 1 + 2147483648 < 4294967296 by omega)] at e3093
          have p3094 : 0 ≤ (z4 + 1).toInt ∧ (z4 + 1).toInt ≤ 80 := by omega
          have p3095 : (0 : Int32).toInt = 0 ∨ (u_8b.1 1).toInt ≤ N := by (have := li_0; omega)
          have p3096 : 80 - (z4 + 1).toInt < ((n : Nat) : Int) := by (omega)
          exact ih _ _ _ _ q3088 q3089 p3094 p3095 p3096
        · replace c3092 := q_neq c3092
          rw [li_0] at c3092
          refine ⟨fun c3097 => ?_, fun c3098 => ?_⟩
          · replace c3097 := q_eq c3097
            rw [li_12] at c3097
            have e3099 := tq_addr li_1 z4
            try rw [Int.emod_eq_of_lt (show 0 ≤ (z4).toInt + 1 + 2147483648 by omega) (show (z4).toInt + 1 + 2147483648 < 4294967296 by omega)] at e3099
            have p3100 : 0 ≤ (z4 + 1).toInt ∧ (z4 + 1).toInt ≤ 80 := by omega
            have p3101 : (1 : Int32).toInt = 0 ∨ (u_8b.1 1).toInt ≤ N := by (have := li_1; omega)
            have p3102 : 80 - (z4 + 1).toInt < ((n : Nat) : Int) := by (omega)
            exact ih _ _ _ _ q3088 q3089 p3100 p3101 p3102
          · replace c3098 := q_neq c3098
            rw [li_12] at c3098
            have p3103 : (u_8b.1 0).toInt = N := by omega
            have p3104 : 0 ≤ (u_8b.1 1).toInt ∧ (u_8b.1 1).toInt ≤ N ∧ 0 ≤ (u_8b.1 2).toInt ∧ (u_8b.1 2).toInt ≤ (u_8b.1 1).toInt ∧ 0 ≤ (u_8b.1 5).toInt ∧ (u_8b.1 5).toInt ≤ 5000 := by omega
            have p3105 : 0 ≤ N ∧ N ≤ 400 := by omega
            have B3106 : tj (N) u_8b := ⟨p3103, p3104, p3105⟩
            refine wq_X4_goesOn q3088 B3106 (fun r_13 u_14a u_14b q3107 q3108 q3109 => ?_)
            have := q3107.1
            have := q3108.1
            have := q3108.2.1
            refine ⟨fun c3110 => ?_, fun c3111 => ?_⟩
            · replace c3110 := q_eq c3110
              rw [li_0] at c3110
              have e3112 := tq_addr li_1 z4
              try rw [Int.emod_eq_of_lt (show 0 ≤ (z4).toInt + 1 + 2147483648 by omega) (show (z4).toInt + 1 + 2147483648 < 4294967296 by omega)] at e3112
              have p3113 : 0 ≤ (z4 + 1).toInt ∧ (z4 + 1).toInt ≤ 80 := by omega
              have p3114 : (0 : Int32).toInt = 0 ∨ (u_14b.1 1).toInt ≤ N := by (have := li_0; omega)
              have p3115 : 80 - (z4 + 1).toInt < ((n : Nat) : Int) := by (omega)
              exact ih _ _ _ _ q3107 q3108 p3113 p3114 p3115
            · replace c3111 := q_neq c3111
              rw [li_0] at c3111
              have e3116 := tq_addr li_1 z4
              try rw [Int.emod_eq_of_lt (show 0 ≤ (z4).toInt + 1 + 2147483648 by omega) (show (z4).toInt + 1 + 2147483648 < 4294967296 by omega)] at e3116
              have p3117 : 0 ≤ (z4 + 1).toInt ∧ (z4 + 1).toInt ≤ 80 := by omega
              have p3118 : (1 : Int32).toInt = 0 ∨ (u_14b.1 1).toInt ≤ N := by (have := li_1; omega)
              have p3119 : 80 - (z4 + 1).toInt < ((n : Nat) : Int) := by (omega)
              exact ih _ _ _ _ q3107 q3108 p3117 p3118 p3119
