theorem wq_X7_mend {post : Int32 → Md → Prop} {s0 : Md} {x1 : Int32} {x2 : Int32} {N R W D : Int} (h100591 : mb (N) (R) (W) (D) s0) (h100592 : R ≤ 0 ∨ 0 < D) (k : ∀ (r : Int32) (u : Md), mb (N) (R) (W) (D) u → post r u) : wp_X7_mend post s0 x1 x2 := by
  unfold wp_X7_mend
  have := h100591.1
  have := h100591.2.1
  have := h100591.2.2.1
  have := h100591.2.2.2.1
  have p100593 : R ≤ 0 ∨ 0 < D := by omega
  refine wq_X7_isFlap h100591 p100593 (fun r_1 q100594 => ?_)
  refine ⟨fun c100595 => ?_, fun c100596 => ?_⟩
  · replace c100595 := q_neq c100595
    rw [li_0] at c100595
    have p100597 : 0 ≤ (x1).toInt ∧ (x1).toInt < 40 := by omega
    refine wq_X7_wornOf p100597 (fun r_4 => ?_)
    refine wq_X7_isIn (fun r_6 q100598 => ?_)
    refine ⟨fun c100599 => ?_, fun c100600 => ?_⟩
    · replace c100599 := q_neq c100599
      rw [li_0] at c100599
      have p100601 : R ≤ 0 ∨ 0 < D := by omega
      refine wq_X7_keepsAct h100591 p100601 (fun u_10 q100602 q100603 q100604 => ?_)
      have := q100602.1
      have := q100602.2.1
      have p100605 : 0 ≤ (x1).toInt ∧ (x1).toInt < 40 := by omega
      refine wq_X7_wornOf p100605 (fun r_11 => ?_)
      have p100606 : 0 ≤ (x1).toInt ∧ (x1).toInt < 40 := by omega
      refine wq_X7_sets_7 q100602 p100606 (fun u_14 q100607 q100608 q100609 => ?_)
      have := q100607.1
      have := q100607.2.1
      have p100610 : 0 ≤ (x1).toInt ∧ (x1).toInt < 40 := by omega
      refine wq_X7_wornOf p100610 (fun r_15 => ?_)
      refine wq_X7_bits (fun r_17 => ?_)
      exact k _ _ q100607
    · replace c100600 := q_eq c100600
      rw [li_0] at c100600
      exact k _ _ h100591
  · replace c100596 := q_eq c100596
    rw [li_0] at c100596
    exact k _ _ h100591
theorem wq_X7_limit {post : Int32 → Md → Prop} {s0 : Md} {x1 : Int32} {N R W D : Int} (h100611 : mb (N) (R) (W) (D) s0) (h100612 : R ≤ 0 ∨ 0 < D) (k : ∀ (r : Int32) (u : Md), mb (N) (R) (W) (D) u → post r u) : wp_X7_limit post s0 x1 := by
  unfold wp_X7_limit
  have := h100611.1
  have := h100611.2.1
  have := h100611.2.2.1
  have := h100611.2.2.2.1
  refine wq_X7_isBoard h100611 (fun r_1 q100613 => ?_)
  refine ⟨fun c100614 => ?_, fun c100615 => ?_⟩
  · replace c100614 := q_eq c100614
    rw [li_0] at c100614
    exact k _ _ h100611
  · replace c100615 := q_neq c100615
    rw [li_0] at c100615
    refine wq_X7_in (fun r_4 q100616 => ?_)
    try simp only [lj_1, lj_99] at q100616
    have := tq_64 x1
    refine ⟨fun c100617 => ?_, fun c100618 => ?_⟩
    · replace c100617 := q_neq c100617
      rw [li_0] at c100617
      refine ⟨fun c100619 => ?_, fun c100620 => ?_⟩
      · replace c100619 := q_neq c100619
        have e100621 := tq_32 (s0.2.2.1 0 (Int32.toNatClampNeg 2))
        try rw [Int.emod_eq_of_lt (show 0 ≤ (s0.2.2.1 0 (Int32.toNatClampNeg 2)).toInt + 2147483648 by omega) (show (s0.2.2.1 0 (Int32.toNatClampNeg 2)).toInt + 2147483648 < 4294967296 by omega)] at e100621
        have p100622 : R ≤ 0 ∨ 0 < D := by omega
        refine wq_X7_keepsAct h100611 p100622 (fun u_9 q100623 q100624 q100625 => ?_)
        have := q100623.1
        have := q100623.2.1
        have : (u_9.1 5).toInt = (s0.1 5).toInt := ie_i q100624 5 (by decide)
        have p100626 : (u_9.1 5).toInt = N := by omega
        have p100627 : 0 ≤ (u_9.1 0).toInt ∧ (u_9.1 0).toInt ≤ 10 := by omega
        have p100628 : 0 ≤ N ∧ N ≤ 400 := by omega
        have p100629 : 0 ≤ R ∧ R ≤ 6 ∧ 0 ≤ W ∧ W ≤ 10 ∧ 0 ≤ R * W ∧ R * W ≤ 40 ∧ 0 ≤ D ∧ D ≤ 4 ∧ (D ≤ 0 ∨ 1 ≤ R) ∧ (1 ≤ R ∨ R * W = 0) := by omega
        have B100630 : mb (N) (R) (W) (D) (u_9.1, u_9.2.1, (va_up u_9.2.2.1 0 (vp_updL (u_9.2.2.1 0) (Int32.toNatClampNeg 2) (Int32.toInt64 x1))), u_9.2.2.2) := ⟨p100626, p100627, p100628, p100629, (rw_lim q100623.2.2.2.2.1 (by omega)), q100623.2.2.2.2.2.1, q100623.2.2.2.2.2.2.1, q100623.2.2.2.2.2.2.2⟩
        exact k _ _ B100630
      · replace c100620 := q_eq c100620
        have e100631 := tq_32 (s0.2.2.1 0 (Int32.toNatClampNeg 2))
        try rw [Int.emod_eq_of_lt (show 0 ≤ (s0.2.2.1 0 (Int32.toNatClampNeg 2)).toInt + 2147483648 by omega) (show (s0.2.2.1 0 (Int32.toNatClampNeg 2)).toInt + 2147483648 < 4294967296 by omega)] at e100631
        exact k _ _ h100611
    · replace c100618 := q_eq c100618
      rw [li_0] at c100618
      exact k _ _ h100611
theorem wq_X7_exchange_L109 {post : Int32 → Md → Prop} {e131 : Md → Int32 → Int32 → Int32 → Int32 → Int64 → Int32 → Prop} {N R W D : Int} (ke131 : ∀ (t0 : Md) (z1 : Int32) (z2 : Int32) (z3 : Int32) (z4 : Int32) (w5 : Int64) (z7 : Int32), mb (N) (R) (W) (D) t0 → 496 ≤ (z7).toInt ∧ (z7).toInt ≤ 6896 → e131 t0 z1 z2 z3 z4 w5 z7) : ∀ (n : Nat) (t0 : Md) (z1 : Int32) (z2 : Int32) (z3 : Int32) (z4 : Int32) (w5 : Int64) (z7 : Int32), mb (N) (R) (W) (D) t0 → 496 ≤ (z7).toInt ∧ (z7).toInt ≤ 6896 → 6896 - (z7).toInt < (n : Int) → wp_X7_exchange_L109 post e131 n t0 z1 z2 z3 z4 w5 z7 := by
  intro n
  induction n with
  | zero =>
    intro t0 z1 z2 z3 z4 w5 z7 i100632 i100633 i100634
    have := i100632.1
    have := i100632.2.1
    have := i100632.2.2.1
    have := i100632.2.2.2.1
    exfalso
    omega
  | succ n ih =>
    intro t0 z1 z2 z3 z4 w5 z7 i100632 i100633 i100634
    unfold wp_X7_exchange_L109
    have := i100632.1
    have := i100632.2.1
    have := i100632.2.2.1
    have := i100632.2.2.2.1
    refine ⟨fun c100635 => ?_, fun c100636 => ?_⟩
    · replace c100635 := q_le c100635
      rw [li_6896] at c100635
      have p100637 : 496 ≤ (z7).toInt ∧ (z7).toInt ≤ 6896 := by omega
      exact ke131 _ _ _ _ _ _ _ i100632 p100637
    · replace c100636 := q_nle c100636
      rw [li_6896] at c100636
      have v100638 : vp_in z7 6896 := vi (by omega) (by omega)
      refine ⟨v100638, ?_⟩
      have p100639 : (t0.1 5).toInt = N := by omega
      have p100640 : 0 ≤ (t0.1 0).toInt ∧ (t0.1 0).toInt ≤ 10 := by omega
      have p100641 : 0 ≤ N ∧ N ≤ 400 := by omega
      have p100642 : 0 ≤ R ∧ R ≤ 6 ∧ 0 ≤ W ∧ W ≤ 10 ∧ 0 ≤ R * W ∧ R * W ≤ 40 ∧ 0 ≤ D ∧ D ≤ 4 ∧ (D ≤ 0 ∨ 1 ≤ R) ∧ (1 ≤ R ∨ R * W = 0) := by omega
      have B100643 : mb (N) (R) (W) (D) (t0.1, t0.2.1, (va_up t0.2.2.1 0 (vp_updL (t0.2.2.1 0) (Int32.toNatClampNeg z7) 0)), t0.2.2.2) := ⟨p100639, p100640, p100641, p100642, (rw_irr i100632.2.2.2.2.1 (by rw [tn_i]; unfold rw_rel; omega)), i100632.2.2.2.2.2.1, i100632.2.2.2.2.2.2.1, i100632.2.2.2.2.2.2.2⟩
      have e100644 := tq_addr li_1 z7
      try rw [Int.emod_eq_of_lt (show 0 ≤ (z7).toInt + 1 + 2147483648 by omega) (show (z7).toInt + 1 + 2147483648 < 4294967296 by omega)] at e100644
      have p100645 : 496 ≤ (z7 + 1).toInt ∧ (z7 + 1).toInt ≤ 6896 := by omega
      have p100646 : 6896 - (z7 + 1).toInt < ((n : Nat) : Int) := by (omega)
      exact ih _ _ _ _ _ _ _ B100643 p100645 p100646
theorem wq_X7_exchange {post : Int32 → Md → Prop} {s0 : Md} {x1 : Int32} {x2 : Int32} {x3 : Int32} {N R W D : Int} (h100647 : mb (N) (R) (W) (D) s0) (h100648 : R ≤ 0 ∨ 0 < D) (k : ∀ (r : Int32) (u : Md), mb (N) (R) (W) (D) u → post r u) : wp_X7_exchange post s0 x1 x2 x3 := by
  unfold wp_X7_exchange
  have := h100647.1
  have := h100647.2.1
  have := h100647.2.2.1
  have := h100647.2.2.2.1
  refine wq_X7_isDrum h100647 (fun r_1 q100649 => ?_)
  refine ⟨fun c100650 => ?_, fun c100651 => ?_⟩
  · replace c100650 := q_eq c100650
    rw [li_0] at c100650
    exact k _ _ h100647
  · replace c100651 := q_neq c100651
    rw [li_0] at c100651
    have p100652 : 0 ≤ (x1).toInt ∧ (x1).toInt < 4 := by omega
    refine wq_X7_flapsOf h100647 p100652 (fun r_4 q100653 => ?_)
    refine wq_X7_in (fun r_6 q100654 => ?_)
    try simp only [lj_1] at q100654
    have := tq_64 x2
    have e100655 := tq_subr li_1 r_4
    try rw [Int.emod_eq_of_lt (show 0 ≤ (r_4).toInt - 1 + 2147483648 by omega) (show (r_4).toInt - 1 + 2147483648 < 4294967296 by omega)] at e100655
    have := tq_64 (r_4 - 1)
    refine ⟨fun c100656 => ?_, fun c100657 => ?_⟩
    · replace c100656 := q_eq c100656
      rw [li_0] at c100656
      exact k _ _ h100647
    · replace c100657 := q_neq c100657
      rw [li_0] at c100657
      have p100658 : 0 ≤ (x1).toInt ∧ (x1).toInt < 4 := by omega
      refine wq_X7_flapsOf h100647 p100658 (fun r_9 q100659 => ?_)
      refine wq_X7_in (fun r_11 q100660 => ?_)
      try simp only [lj_1] at q100660
      have := tq_64 x3
      have e100661 := tq_subr li_1 r_9
      try rw [Int.emod_eq_of_lt (show 0 ≤ (r_9).toInt - 1 + 2147483648 by omega) (show (r_9).toInt - 1 + 2147483648 < 4294967296 by omega)] at e100661
      have := tq_64 (r_9 - 1)
      refine ⟨fun c100662 => ?_, fun c100663 => ?_⟩
      · replace c100662 := q_eq c100662
        rw [li_0] at c100662
        exact k _ _ h100647
      · replace c100663 := q_neq c100663
        rw [li_0] at c100663
        refine ⟨fun c100664 => ?_, fun c100665 => ?_⟩
        · replace c100664 := q_neq c100664
          have p100666 : R ≤ 0 ∨ 0 < D := by omega
          refine wq_X7_keepsAct h100647 p100666 (fun u_16 q100667 q100668 q100669 => ?_)
          have := q100667.1
          have := q100667.2.1
          have e100670 := tq_mulc li_42 x1
          try rw [Int.emod_eq_of_lt (show 0 ≤ 42 * (x1).toInt + 2147483648 by omega) (show 42 * (x1).toInt + 2147483648 < 4294967296 by omega)] at e100670
          have e100671 := tq_addc li_8 (42 * x1)
          try rw [Int.emod_eq_of_lt (show 0 ≤ 8 + (42 * x1).toInt + 2147483648 by omega) (show 8 + (42 * x1).toInt + 2147483648 < 4294967296 by omega)] at e100671
          have e100672 := tq_addr li_2 (8 + (42 * x1))
          try rw [Int.emod_eq_of_lt (show 0 ≤ (8 + (42 * x1)).toInt + 2 + 2147483648 by omega) (show (8 + (42 * x1)).toInt + 2 + 2147483648 < 4294967296 by omega)] at e100672
          have e100673 := tq_add ((8 + (42 * x1)) + 2) x2
          try rw [Int.emod_eq_of_lt (show 0 ≤ ((8 + (42 * x1)) + 2).toInt + (x2).toInt + 2147483648 by omega) (show ((8 + (42 * x1)) + 2).toInt + (x2).toInt + 2147483648 < 4294967296 by omega)] at e100673
          have v100674 : vp_in (((8 + (42 * x1)) + 2) + x2) 6896 := vi (by omega) (by omega)
          refine ⟨v100674, ?_⟩
          have e100675 := tq_add ((8 + (42 * x1)) + 2) x3
          try rw [Int.emod_eq_of_lt (show 0 ≤ ((8 + (42 * x1)) + 2).toInt + (x3).toInt + 2147483648 by omega) (show ((8 + (42 * x1)) + 2).toInt + (x3).toInt + 2147483648 < 4294967296 by omega)] at e100675
          have v100676 : vp_in (((8 + (42 * x1)) + 2) + x3) 6896 := vi (by omega) (by omega)
          refine ⟨v100676, ?_⟩
          refine ⟨v100674, ?_⟩
          refine ⟨v100676, ?_⟩
          have : (u_16.1 5).toInt = (s0.1 5).toInt := ie_i q100668 5 (by decide)
          have p100677 : (u_16.1 5).toInt = N := by omega
          have p100678 : 0 ≤ (u_16.1 0).toInt ∧ (u_16.1 0).toInt ≤ 10 := by omega
          have p100679 : 0 ≤ N ∧ N ≤ 400 := by omega
          have p100680 : 0 ≤ R ∧ R ≤ 6 ∧ 0 ≤ W ∧ W ≤ 10 ∧ 0 ≤ R * W ∧ R * W ≤ 40 ∧ 0 ≤ D ∧ D ≤ 4 ∧ (D ≤ 0 ∨ 1 ≤ R) ∧ (1 ≤ R ∨ R * W = 0) := by omega
          have B100681 : mb (N) (R) (W) (D) (u_16.1, u_16.2.1, (va_up u_16.2.2.1 0 (vp_updL (vp_updL (u_16.2.2.1 0) (Int32.toNatClampNeg (((8 + (42 * x1)) + 2) + x2)) (u_16.2.2.1 0 (Int32.toNatClampNeg (((8 + (42 * x1)) + 2) + x3)))) (Int32.toNatClampNeg (((8 + (42 * x1)) + 2) + x3)) (u_16.2.2.1 0 (Int32.toNatClampNeg (((8 + (42 * x1)) + 2) + x2))))), u_16.2.2.2) := ⟨p100677, p100678, p100679, p100680, (rw_irr (rw_irr q100667.2.2.2.2.1 (by rw [tn_i]; unfold rw_rel; omega)) (by rw [tn_i]; unfold rw_rel; omega)), q100667.2.2.2.2.2.1, q100667.2.2.2.2.2.2.1, q100667.2.2.2.2.2.2.2⟩
          have p100682 : 496 ≤ (496 : Int32).toInt ∧ (496 : Int32).toInt ≤ 6896 := by (have := li_496; omega)
          obtain ⟨f100683, g100684⟩ := fu_e 7000
          have p100685 : 6896 - (496 : Int32).toInt < (f100683 : Int) := by (have := li_496; omega)
          refine ⟨f100683, wq_X7_exchange_L109 (fun t0 z1 z2 z3 z4 w5 z7 q100686 q100687 => ?_) f100683 _ _ _ _ _ _ _ B100681 p100682 p100685⟩
          have := q100686.1
          have := q100686.2.1
          exact k _ _ q100686
        · replace c100665 := q_eq c100665
          exact k _ _ h100647
theorem wq_X7_cell {post : Int32 → Prop} {s0 : Md} {x1 : Int32} {x2 : Int32} {N R W D : Int} (h100688 : mb (N) (R) (W) (D) s0) (h100689 : R ≤ 0 ∨ 0 < D) (k : ∀ (r : Int32), post r) : wp_X7_cell post s0 x1 x2 := by
  unfold wp_X7_cell
  have := h100688.1
  have := h100688.2.1
  have := h100688.2.2.1
  have := h100688.2.2.2.1
  refine wq_X7_isCell h100688 (fun r_1 q100690 => ?_)
  refine ⟨fun c100691 => ?_, fun c100692 => ?_⟩
  · replace c100691 := q_neq c100691
    rw [li_0] at c100691
    refine ⟨fun c100693 => ?_, fun c100694 => ?_⟩
    · replace c100693 := q_eq c100693
      rw [li_0] at c100693
      have p100695 : 0 ≤ (x1).toInt ∧ (x1).toInt < 40 := by omega
      have p100696 : 0 ≤ (x2).toInt ∧ (x2).toInt ≤ 7 := by omega
      refine wq_X7_of_g h100688 p100695 p100696 (fun r_5 => ?_)
      exact k _
    · replace c100694 := q_neq c100694
      rw [li_0] at c100694
      refine ⟨fun c100697 => ?_, fun c100698 => ?_⟩
      · replace c100697 := q_eq c100697
        rw [li_1] at c100697
        have p100699 : 0 ≤ (x1).toInt ∧ (x1).toInt < 40 := by omega
        have p100700 : 0 ≤ (x2).toInt ∧ (x2).toInt ≤ 7 := by omega
        refine wq_X7_of_g h100688 p100699 p100700 (fun r_8 => ?_)
        exact k _
      · replace c100698 := q_neq c100698
        rw [li_1] at c100698
        refine ⟨fun c100701 => ?_, fun c100702 => ?_⟩
        · replace c100701 := q_eq c100701
          rw [li_2] at c100701
          have p100703 : 0 ≤ (x1).toInt ∧ (x1).toInt < 40 := by omega
          have p100704 : 0 ≤ (x2).toInt ∧ (x2).toInt ≤ 7 := by omega
          refine wq_X7_of_g h100688 p100703 p100704 (fun r_11 => ?_)
          exact k _
        · replace c100702 := q_neq c100702
          rw [li_2] at c100702
          refine ⟨fun c100705 => ?_, fun c100706 => ?_⟩
          · replace c100705 := q_eq c100705
            rw [li_3] at c100705
            have p100707 : 0 ≤ (x1).toInt ∧ (x1).toInt < 40 := by omega
            have p100708 : 0 ≤ (x2).toInt ∧ (x2).toInt ≤ 7 := by omega
            refine wq_X7_of_g h100688 p100707 p100708 (fun r_14 => ?_)
            exact k _
          · replace c100706 := q_neq c100706
            rw [li_3] at c100706
            refine ⟨fun c100709 => ?_, fun c100710 => ?_⟩
            · replace c100709 := q_eq c100709
              rw [li_4] at c100709
              have p100711 : 0 ≤ (x1).toInt ∧ (x1).toInt < 40 := by omega
              have p100712 : 0 < D := by omega
              refine wq_X7_leftOf h100688 p100711 p100712 (fun r_17 q100713 q100714 => ?_)
              exact k _
            · replace c100710 := q_neq c100710
              rw [li_4] at c100710
              refine ⟨fun c100715 => ?_, fun c100716 => ?_⟩
              · replace c100715 := q_eq c100715
                rw [li_5] at c100715
                have p100717 : 0 ≤ (x1).toInt ∧ (x1).toInt < 40 := by omega
                refine wq_X7_of_4 h100688 p100717 (fun r_20 q100718 q100719 => ?_)
                exact k _
              · replace c100716 := q_neq c100716
                rw [li_5] at c100716
                refine ⟨fun c100720 => ?_, fun c100721 => ?_⟩
                · replace c100720 := q_eq c100720
                  rw [li_6] at c100720
                  have p100722 : 0 ≤ (x1).toInt ∧ (x1).toInt < 40 := by omega
                  have p100723 : 0 ≤ ((5 : Int32)).toInt ∧ ((5 : Int32)).toInt ≤ 7 := by (have := li_5; omega)
                  refine wq_X7_of_g h100688 p100722 p100723 (fun r_23 => ?_)
                  exact k _
                · replace c100721 := q_neq c100721
                  rw [li_6] at c100721
                  refine ⟨fun c100724 => ?_, fun c100725 => ?_⟩
                  · replace c100724 := q_eq c100724
                    rw [li_7] at c100724
                    have p100726 : 0 ≤ (x1).toInt ∧ (x1).toInt < 40 := by omega
                    have p100727 : 0 ≤ ((6 : Int32)).toInt ∧ ((6 : Int32)).toInt ≤ 7 := by (have := li_6; omega)
                    refine wq_X7_of_g h100688 p100726 p100727 (fun r_26 => ?_)
                    exact k _
                  · replace c100725 := q_neq c100725
                    rw [li_7] at c100725
                    refine ⟨fun c100728 => ?_, fun c100729 => ?_⟩
                    · replace c100728 := q_eq c100728
                      rw [li_8] at c100728
                      have p100730 : 0 ≤ (x1).toInt ∧ (x1).toInt < 40 := by omega
                      refine wq_X7_wornOf p100730 (fun r_29 => ?_)
                      refine wq_X7_bits (fun r_31 => ?_)
                      exact k _
                    · replace c100729 := q_neq c100729
                      rw [li_8] at c100729
                      exact k _
  · replace c100692 := q_eq c100692
    rw [li_0] at c100692
    exact k _
theorem wq_X7_worn {post : Int64 → Prop} {s0 : Md} {x1 : Int32} {N R W D : Int} (h100731 : mb (N) (R) (W) (D) s0) (k : ∀ (r : Int64), post r) : wp_X7_worn post s0 x1 := by
  unfold wp_X7_worn
  have := h100731.1
  have := h100731.2.1
  have := h100731.2.2.1
  have := h100731.2.2.2.1
  refine wq_X7_isCell h100731 (fun r_1 q100732 => ?_)
  refine ⟨fun c100733 => ?_, fun c100734 => ?_⟩
  · replace c100733 := q_eq c100733
    rw [li_0] at c100733
    exact k _
  · replace c100734 := q_neq c100734
    rw [li_0] at c100734
    have p100735 : 0 ≤ (x1).toInt ∧ (x1).toInt < 40 := by omega
    refine wq_X7_wornOf p100735 (fun r_4 => ?_)
    exact k _
theorem wq_X7_cellsWith_L4 {s0 : Md} {post : Int32 → Prop} {e36 : Int32 → Int32 → Int32 → Prop} {N R W D : Int} (h100736 : mb (N) (R) (W) (D) s0) (ke36 : ∀ (z1 : Int32) (z2 : Int32) (z3 : Int32), 0 ≤ (z3).toInt ∧ (z3).toInt ≤ R * W → e36 z1 z2 z3) : ∀ (n : Nat) (z1 : Int32) (z2 : Int32) (z3 : Int32), 0 ≤ (z3).toInt ∧ (z3).toInt ≤ R * W → R * W - (z3).toInt < (n : Int) → wp_X7_cellsWith_L4 s0 post e36 n z1 z2 z3 := by
  have := h100736.1
  have := h100736.2.1
  have := h100736.2.2.1
  have := h100736.2.2.2.1
  intro n
  induction n with
  | zero =>
    intro z1 z2 z3 i100737 i100738
    exfalso
    omega
  | succ n ih =>
    intro z1 z2 z3 i100737 i100738
    unfold wp_X7_cellsWith_L4
    refine wq_X7_cells h100736 (fun r_1 q100739 => ?_)
    refine ⟨fun c100740 => ?_, fun c100741 => ?_⟩
    · replace c100740 := q_le c100740
      have p100742 : 0 ≤ (z3).toInt ∧ (z3).toInt ≤ R * W := by omega
      exact ke36 _ _ _ p100742
    · replace c100741 := q_nle c100741
      have p100743 : 0 ≤ (z3).toInt ∧ (z3).toInt < 40 := by omega
      refine wq_X7_of_0 h100736 p100743 (fun r_4 q100744 q100745 => ?_)
      refine ⟨fun c100746 => ?_, fun c100747 => ?_⟩
      · replace c100746 := q_neq c100746
        have e100748 := tq_addr li_1 z3
        try rw [Int.emod_eq_of_lt (show 0 ≤ (z3).toInt + 1 + 2147483648 by omega) (show (z3).toInt + 1 + 2147483648 < 4294967296 by omega)] at e100748
        have p100749 : 0 ≤ (z3 + 1).toInt ∧ (z3 + 1).toInt ≤ R * W := by omega
        have p100750 : R * W - (z3 + 1).toInt < ((n : Nat) : Int) := by (omega)
        exact ih _ _ _ p100749 p100750
      · replace c100747 := q_eq c100747
        have e100751 := tq_addr li_1 z3
        try rw [Int.emod_eq_of_lt (show 0 ≤ (z3).toInt + 1 + 2147483648 by omega) (show (z3).toInt + 1 + 2147483648 < 4294967296 by omega)] at e100751
        have p100752 : 0 ≤ (z3 + 1).toInt ∧ (z3 + 1).toInt ≤ R * W := by omega
        have p100753 : R * W - (z3 + 1).toInt < ((n : Nat) : Int) := by (omega)
        exact ih _ _ _ p100752 p100753
theorem wq_X7_cellsWith {post : Int32 → Prop} {s0 : Md} {x1 : Int32} {N R W D : Int} (h100754 : mb (N) (R) (W) (D) s0) (k : ∀ (r : Int32), post r) : wp_X7_cellsWith post s0 x1 := by
  unfold wp_X7_cellsWith
  have := h100754.1
  have := h100754.2.1
  have := h100754.2.2.1
  have := h100754.2.2.2.1
  have p100755 : 0 ≤ (0 : Int32).toInt ∧ (0 : Int32).toInt ≤ R * W := by (have := li_0; omega)
  obtain ⟨f100756, g100757⟩ := fu_e 50
  have p100758 : R * W - (0 : Int32).toInt < (f100756 : Int) := by (have := li_0; omega)
  refine ⟨f100756, wq_X7_cellsWith_L4 h100754 (fun z1 z2 z3 q100759 => ?_) f100756 _ _ _ p100755 p100758⟩
  exact k _
theorem wq_X7_manyWith_L5 {s0 : Md} {post : Int32 → Prop} {e40 : Int32 → Int32 → Int32 → Int32 → Prop} {N R W D : Int} (h100760 : mb (N) (R) (W) (D) s0) (ke40 : ∀ (z1 : Int32) (z2 : Int32) (z3 : Int32) (z4 : Int32), 0 ≤ (z1).toInt ∧ (z1).toInt < D → 0 ≤ (z4).toInt ∧ (z4).toInt ≤ 40 → e40 z1 z2 z3 z4) : ∀ (n : Nat) (z1 : Int32) (z2 : Int32) (z3 : Int32) (z4 : Int32), 0 ≤ (z1).toInt ∧ (z1).toInt < D → 0 ≤ (z4).toInt ∧ (z4).toInt ≤ 40 → 40 - (z4).toInt < (n : Int) → wp_X7_manyWith_L5 s0 post e40 n z1 z2 z3 z4 := by
  have := h100760.1
  have := h100760.2.1
  have := h100760.2.2.1
  have := h100760.2.2.2.1
  intro n
  induction n with
  | zero =>
    intro z1 z2 z3 z4 i100761 i100762 i100763
    exfalso
    omega
  | succ n ih =>
    intro z1 z2 z3 z4 i100761 i100762 i100763
    unfold wp_X7_manyWith_L5
    have p100764 : 0 ≤ (z1).toInt ∧ (z1).toInt < 4 := by omega
    refine wq_X7_flapsOf h100760 p100764 (fun r_1 q100765 => ?_)
    refine ⟨fun c100766 => ?_, fun c100767 => ?_⟩
    · replace c100766 := q_le c100766
      have p100768 : 0 ≤ (z1).toInt ∧ (z1).toInt < D := by omega
      have p100769 : 0 ≤ (z4).toInt ∧ (z4).toInt ≤ 40 := by omega
      exact ke40 _ _ _ _ p100768 p100769
    · replace c100767 := q_nle c100767
      have p100770 : 0 ≤ (z1).toInt ∧ (z1).toInt < 4 := by omega
      have p100771 : 0 ≤ (z4).toInt ∧ (z4).toInt < 40 := by omega
      refine wq_X7_signOf p100770 p100771 (fun r_4 => ?_)
      refine ⟨fun c100772 => ?_, fun c100773 => ?_⟩
      · replace c100772 := q_neq c100772
        have p100774 : 0 ≤ (z1).toInt ∧ (z1).toInt < D := by omega
        have e100775 := tq_addr li_1 z4
        try rw [Int.emod_eq_of_lt (show 0 ≤ (z4).toInt + 1 + 2147483648 by omega) (show (z4).toInt + 1 + 2147483648 < 4294967296 by omega)] at e100775
        have p100776 : 0 ≤ (z4 + 1).toInt ∧ (z4 + 1).toInt ≤ 40 := by omega
        have p100777 : 40 - (z4 + 1).toInt < ((n : Nat) : Int) := by (omega)
        exact ih _ _ _ _ p100774 p100776 p100777
      · replace c100773 := q_eq c100773
        have p100778 : 0 ≤ (z1).toInt ∧ (z1).toInt < D := by omega
        have e100779 := tq_addr li_1 z4
        try rw [Int.emod_eq_of_lt (show 0 ≤ (z4).toInt + 1 + 2147483648 by omega) (show (z4).toInt + 1 + 2147483648 < 4294967296 by omega)] at e100779
        have p100780 : 0 ≤ (z4 + 1).toInt ∧ (z4 + 1).toInt ≤ 40 := by omega
        have p100781 : 40 - (z4 + 1).toInt < ((n : Nat) : Int) := by (omega)
        exact ih _ _ _ _ p100778 p100780 p100781
theorem wq_X7_manyWith {post : Int32 → Prop} {s0 : Md} {x1 : Int32} {x2 : Int32} {N R W D : Int} (h100782 : mb (N) (R) (W) (D) s0) (h100783 : 0 ≤ (x1).toInt ∧ (x1).toInt < D) (k : ∀ (r : Int32), post r) : wp_X7_manyWith post s0 x1 x2 := by
  unfold wp_X7_manyWith
  have := h100782.1
  have := h100782.2.1
  have := h100782.2.2.1
  have := h100782.2.2.2.1
  have p100784 : 0 ≤ (x1).toInt ∧ (x1).toInt < D := by omega
  have p100785 : 0 ≤ (0 : Int32).toInt ∧ (0 : Int32).toInt ≤ 40 := by (have := li_0; omega)
  obtain ⟨f100786, g100787⟩ := fu_e 50
  have p100788 : 40 - (0 : Int32).toInt < (f100786 : Int) := by (have := li_0; omega)
  refine ⟨f100786, wq_X7_manyWith_L5 h100782 (fun z1 z2 z3 z4 q100789 q100790 => ?_) f100786 _ _ _ _ p100784 p100785 p100788⟩
  exact k _
