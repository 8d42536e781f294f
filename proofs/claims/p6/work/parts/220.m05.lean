theorem wq_X0_mostOfOneSign {post : Int32 → Prop} {s0 : Bd} {x1 : Int32} {R W : Int} (h669 : bi (R) (W) s0) (k : ∀ (r : Int32), post r) : wp_X0_mostOfOneSign post s0 x1 := by
  unfold wp_X0_mostOfOneSign
  have := h669.1
  have := h669.2.1
  have := h669.2.2.1
  have := h669.2.2.2.1
  have := h669.2.2.2.2.2.2.2.2.2
  have p670 : 0 ≤ (0 : Int32).toInt ∧ (0 : Int32).toInt ≤ 40 := by (have := li_0; omega)
  obtain ⟨f671, g672⟩ := fu_e 50
  have p673 : 40 - (0 : Int32).toInt < (f671 : Int) := by (have := li_0; omega)
  refine ⟨f671, wq_X0_mostOfOneSign_L4 h669 (fun z1 z2 z3 q674 => ?_) f671 _ _ _ p670 p673⟩
  exact k _
theorem wq_X0_isWorn {post : Int32 → Prop} {s0 : Bd} {x1 : Int32} {x2 : Int32} {R W : Int} (h675 : bi (R) (W) s0) (h676 : 0 ≤ (x1).toInt ∧ (x1).toInt < 40) (k : ∀ (r : Int32), (r).toInt = 0 ∨ (r).toInt = 1 → post r) : wp_X0_isWorn post s0 x1 x2 := by
  unfold wp_X0_isWorn
  have := h675.1
  have := h675.2.1
  have := h675.2.2.1
  have := h675.2.2.2.1
  have := h675.2.2.2.2.2.2.2.2.2
  have v677 : vp_in x1 40 := vi (by omega) (by omega)
  refine ⟨v677, ?_⟩
  refine ⟨fun c678 => ?_, fun c679 => ?_⟩
  · have p680 : (0 : Int32).toInt = 0 ∨ (0 : Int32).toInt = 1 := by (have := li_0; omega)
    exact k _ p680
  · have p681 : (1 : Int32).toInt = 0 ∨ (1 : Int32).toInt = 1 := by (have := li_1; omega)
    exact k _ p681
theorem wq_J13_bitCount_95d88 {post : Int32 → Prop} {y0 : Int64} (k : ∀ (r : Int32), post r) : wp_J13_bitCount_95d88 post y0 := by
  unfold wp_J13_bitCount_95d88
  exact k _
theorem wq_X0_wornCount {post : Int32 → Prop} {s0 : Bd} {x1 : Int32} {R W : Int} (h682 : bi (R) (W) s0) (h683 : 0 ≤ (x1).toInt ∧ (x1).toInt < 40) (k : ∀ (r : Int32), post r) : wp_X0_wornCount post s0 x1 := by
  unfold wp_X0_wornCount
  have := h682.1
  have := h682.2.1
  have := h682.2.2.1
  have := h682.2.2.2.1
  have := h682.2.2.2.2.2.2.2.2.2
  have v684 : vp_in x1 40 := vi (by omega) (by omega)
  refine ⟨v684, ?_⟩
  refine wq_J13_bitCount_95d88 (fun r_2 => ?_)
  exact k _
theorem wq_X0_wearFlap {post : Bd → Prop} {s0 : Bd} {x1 : Int32} {x2 : Int32} {R W : Int} (h685 : bi (R) (W) s0) (h686 : 0 ≤ (x1).toInt ∧ (x1).toInt < 40) (k : ∀ (u : Bd), bi (R) (W) u → post u) : wp_X0_wearFlap post s0 x1 x2 := by
  unfold wp_X0_wearFlap
  have := h685.1
  have := h685.2.1
  have := h685.2.2.1
  have := h685.2.2.2.1
  have := h685.2.2.2.2.2.2.2.2.2
  have v687 : vp_in x1 40 := vi (by omega) (by omega)
  refine ⟨v687, ?_⟩
  refine ⟨v687, ?_⟩
  refine ⟨v687, ?_⟩
  refine ⟨fun c688 => ?_, fun c689 => ?_⟩
  · replace c688 := q_neq c688
    have := ar_at (h685.2.2.2.2.2.2.2.2.1) v687
    have p690 : (s0.1 0).toInt = R := by omega
    have p691 : (s0.1 1).toInt = W := by omega
    have p692 : 0 ≤ (s0.1 3).toInt ∧ (s0.1 3).toInt ≤ 4 := by omega
    have p693 : 0 ≤ R ∧ R ≤ 6 ∧ 0 ≤ W ∧ W ≤ 10 ∧ 0 ≤ R * W ∧ R * W ≤ 40 := by omega
    have p694 : ar 4 (0) (40) (s0.2.1 1) := h685.2.2.2.2.1
    have p695 : ar 40 (0) (3) (s0.2.1 3) := h685.2.2.2.2.2.1
    have p696 : ar 40 (0) (39) (s0.2.1 4) := h685.2.2.2.2.2.2.1
    have p697 : ar 40 (0) (39) (s0.2.1 5) := h685.2.2.2.2.2.2.2.1
    have p698 : ar 40 (0) (39) (s0.2.1 6) := h685.2.2.2.2.2.2.2.2.1
    have p699 : s0.2.2.2.1 ≤ 6400 := by omega
    have B700 : bi (R) (W) (s0.1, s0.2.1, (vp_updL s0.2.2.1 (Int32.toNatClampNeg x1) ((s0.2.2.1 (Int32.toNatClampNeg x1)) ||| ((1 : Int64) <<< ((Int32.toInt64 x2) &&& 63)))), s0.2.2.2.1, s0.2.2.2.2) := ⟨p690, p691, p692, p693, p694, p695, p696, p697, p698, p699⟩
    exact k _ B700
  · replace c689 := q_eq c689
    have := ar_at (h685.2.2.2.2.2.2.2.2.1) v687
    refine ⟨v687, ?_⟩
    have p701 : (s0.1 0).toInt = R := by omega
    have p702 : (s0.1 1).toInt = W := by omega
    have p703 : 0 ≤ (s0.1 3).toInt ∧ (s0.1 3).toInt ≤ 4 := by omega
    have p704 : 0 ≤ R ∧ R ≤ 6 ∧ 0 ≤ W ∧ W ≤ 10 ∧ 0 ≤ R * W ∧ R * W ≤ 40 := by omega
    have p705 : ar 4 (0) (40) (s0.2.1 1) := h685.2.2.2.2.1
    have p706 : ar 40 (0) (3) (s0.2.1 3) := h685.2.2.2.2.2.1
    have p707 : ar 40 (0) (39) (s0.2.1 4) := h685.2.2.2.2.2.2.1
    have p708 : ar 40 (0) (39) (s0.2.1 5) := h685.2.2.2.2.2.2.2.1
    have p709 : ar 40 (0) (39) (upd (s0.2.1 6) (Int32.toNatClampNeg x1) 0) := (ar_upd h685.2.2.2.2.2.2.2.2.1 (by decide) (by decide))
    have p710 : s0.2.2.2.1 ≤ 6400 := by omega
    have B711 : bi (R) (W) (s0.1, (va_up s0.2.1 6 (upd (s0.2.1 6) (Int32.toNatClampNeg x1) 0)), (vp_updL s0.2.2.1 (Int32.toNatClampNeg x1) ((s0.2.2.1 (Int32.toNatClampNeg x1)) ||| ((1 : Int64) <<< ((Int32.toInt64 x2) &&& 63)))), s0.2.2.2.1, s0.2.2.2.2) := ⟨p701, p702, p703, p704, p705, p706, p707, p708, p709, p710⟩
    exact k _ B711
theorem wq_X0_mendFlap {post : Bd → Prop} {s0 : Bd} {x1 : Int32} {x2 : Int32} {R W : Int} (h712 : bi (R) (W) s0) (h713 : 0 ≤ (x1).toInt ∧ (x1).toInt < 40) (k : ∀ (u : Bd), bi (R) (W) u → post u) : wp_X0_mendFlap post s0 x1 x2 := by
  unfold wp_X0_mendFlap
  have := h712.1
  have := h712.2.1
  have := h712.2.2.1
  have := h712.2.2.2.1
  have := h712.2.2.2.2.2.2.2.2.2
  have v714 : vp_in x1 40 := vi (by omega) (by omega)
  refine ⟨v714, ?_⟩
  refine ⟨v714, ?_⟩
  have p715 : (s0.1 0).toInt = R := by omega
  have p716 : (s0.1 1).toInt = W := by omega
  have p717 : 0 ≤ (s0.1 3).toInt ∧ (s0.1 3).toInt ≤ 4 := by omega
  have p718 : 0 ≤ R ∧ R ≤ 6 ∧ 0 ≤ W ∧ W ≤ 10 ∧ 0 ≤ R * W ∧ R * W ≤ 40 := by omega
  have p719 : ar 4 (0) (40) (s0.2.1 1) := h712.2.2.2.2.1
  have p720 : ar 40 (0) (3) (s0.2.1 3) := h712.2.2.2.2.2.1
  have p721 : ar 40 (0) (39) (s0.2.1 4) := h712.2.2.2.2.2.2.1
  have p722 : ar 40 (0) (39) (s0.2.1 5) := h712.2.2.2.2.2.2.2.1
  have p723 : ar 40 (0) (39) (s0.2.1 6) := h712.2.2.2.2.2.2.2.2.1
  have p724 : s0.2.2.2.1 ≤ 6400 := by omega
  have B725 : bi (R) (W) (s0.1, s0.2.1, (vp_updL s0.2.2.1 (Int32.toNatClampNeg x1) ((s0.2.2.1 (Int32.toNatClampNeg x1)) &&& (((1 : Int64) <<< ((Int32.toInt64 x2) &&& 63)) ^^^ (-1)))), s0.2.2.2.1, s0.2.2.2.2) := ⟨p715, p716, p717, p718, p719, p720, p721, p722, p723, p724⟩
  exact k _ B725
theorem wq_X6_onFrom {post : Int32 → Prop} {x0 : Int32} {x1 : Int32} {x2 : Int32} (k : ∀ (r : Int32), post r) : wp_X6_onFrom post x0 x1 x2 := by
  unfold wp_X6_onFrom
  refine ⟨fun c726 => ?_, fun c727 => ?_⟩
  · replace c726 := q_lt c726
    exact k _
  · replace c727 := q_nlt c727
    exact k _
theorem wq_X0_flapsOnTo {post : Int32 → Prop} {s0 : Bd} {x1 : Int32} {x2 : Int32} {R W : Int} (h728 : bi (R) (W) s0) (h729 : 0 ≤ (x1).toInt ∧ (x1).toInt < 40) (k : ∀ (r : Int32), post r) : wp_X0_flapsOnTo post s0 x1 x2 := by
  unfold wp_X0_flapsOnTo
  have := h728.1
  have := h728.2.1
  have := h728.2.2.1
  have := h728.2.2.2.1
  have := h728.2.2.2.2.2.2.2.2.2
  have v730 : vp_in x1 40 := vi (by omega) (by omega)
  refine ⟨v730, ?_⟩
  have p731 : 0 ≤ (x1).toInt ∧ (x1).toInt < 40 := by omega
  refine wq_X0_flapsOf h728 p731 (fun r_2 q732 => ?_)
  refine wq_X6_onFrom (fun r_4 => ?_)
  exact k _
theorem wq_X0_leftOf {post : Int32 → Prop} {s0 : Bd} {x1 : Int32} {R W : Int} (h733 : bi (R) (W) s0) (h734 : 0 ≤ (x1).toInt ∧ (x1).toInt < 40) (k : ∀ (r : Int32), post r) : wp_X0_leftOf post s0 x1 := by
  unfold wp_X0_leftOf
  have := h733.1
  have := h733.2.1
  have := h733.2.2.1
  have := h733.2.2.2.1
  have := h733.2.2.2.2.2.2.2.2.2
  have v735 : vp_in x1 40 := vi (by omega) (by omega)
  refine ⟨v735, ?_⟩
  refine ⟨v735, ?_⟩
  refine ⟨v735, ?_⟩
  refine ⟨fun c736 => ?_, fun c737 => ?_⟩
  · replace c736 := q_le c736
    rw [li_0] at c736
    have := ar_at (h733.2.2.2.2.2.2.2.2.1) v735
    have := ar_at (h733.2.2.2.2.2.2.2.1) v735
    have e738 := tq_sub (s0.2.1 6 (Int32.toNatClampNeg x1)) (s0.2.1 5 (Int32.toNatClampNeg x1))
    try rw [Int.emod_eq_of_lt (show 0 ≤ (s0.2.1 6 (Int32.toNatClampNeg x1)).toInt - (s0.2.1 5 (Int32.toNatClampNeg x1)).toInt + 2147483648 by omega) (show (s0.2.1 6 (Int32.toNatClampNeg x1)).toInt - (s0.2.1 5 (Int32.toNatClampNeg x1)).toInt + 2147483648 < 4294967296 by omega)] at e738
    exact k _
  · replace c737 := q_nle c737
    rw [li_0] at c737
    have := ar_at (h733.2.2.2.2.2.2.2.2.1) v735
    have := ar_at (h733.2.2.2.2.2.2.2.1) v735
    have e739 := tq_sub (s0.2.1 6 (Int32.toNatClampNeg x1)) (s0.2.1 5 (Int32.toNatClampNeg x1))
    try rw [Int.emod_eq_of_lt (show 0 ≤ (s0.2.1 6 (Int32.toNatClampNeg x1)).toInt - (s0.2.1 5 (Int32.toNatClampNeg x1)).toInt + 2147483648 by omega) (show (s0.2.1 6 (Int32.toNatClampNeg x1)).toInt - (s0.2.1 5 (Int32.toNatClampNeg x1)).toInt + 2147483648 < 4294967296 by omega)] at e739
    refine ⟨fun c740 => ?_, fun c741 => ?_⟩
    · replace c740 := q_lt c740
      rw [li_0] at c740
      have := ar_at (h733.2.2.2.2.2.1) v735
      exact k _
    · replace c741 := q_nlt c741
      rw [li_0] at c741
      have := ar_at (h733.2.2.2.2.2.1) v735
      refine ⟨fun c742 => ?_, fun c743 => ?_⟩
      · replace c742 := q_le c742
        exact k _
      · replace c743 := q_nle c743
        have v744 : vp_in (s0.2.1 3 (Int32.toNatClampNeg x1)) 4 := vi (by omega) (by omega)
        refine ⟨v744, ?_⟩
        exact k _
theorem wq_X0_flapFor {post : Int32 → Prop} {s0 : Bd} {s1 : Tp} {x1 : Int32} {x2 : Int32} {x4 : Int32} {x5 : Int32} {R W N : Int} (h745 : bi (R) (W) s0) (h746 : tz (N) s1) (h747 : 0 ≤ (x1).toInt ∧ (x1).toInt < 40) (k : ∀ (r : Int32), -1 ≤ (r).toInt ∧ (r).toInt ≤ 39 → post r) : wp_X0_flapFor post s0 s1 x1 x2 x4 x5 := by
  unfold wp_X0_flapFor
  have := h745.1
  have := h745.2.1
  have := h745.2.2.1
  have := h745.2.2.2.1
  have := h745.2.2.2.2.2.2.2.2.2
  have := h746.1
  have := h746.2
  refine ⟨fun c748 => ?_, fun c749 => ?_⟩
  · replace c748 := q_lt c748
    rw [li_0] at c748
    have p750 : -1 ≤ (0 : Int32).toInt ∧ (0 : Int32).toInt ≤ 39 := by (have := li_0; omega)
    exact k _ p750
  · replace c749 := q_nlt c749
    rw [li_0] at c749
    refine ⟨fun c751 => ?_, fun c752 => ?_⟩
    · replace c751 := q_le c751
      have p753 : -1 ≤ (0 : Int32).toInt ∧ (0 : Int32).toInt ≤ 39 := by (have := li_0; omega)
      exact k _ p753
    · replace c752 := q_nle c752
      refine wq_X5_byteAt h746 (fun r_3 => ?_)
      have p754 : 0 ≤ (x1).toInt ∧ (x1).toInt < 40 := by omega
      refine wq_X0_nearest h745 p754 (fun r_5 q755 => ?_)
      have p756 : -1 ≤ (r_5).toInt ∧ (r_5).toInt ≤ 39 := by omega
      exact k _ p756
