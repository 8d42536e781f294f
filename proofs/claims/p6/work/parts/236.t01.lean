theorem wq_X7_moved {post : Int32 → Prop} {x0 : Int32} {x1 : Int32} {x2 : Int32} (k : ∀ (r : Int32), (r).toInt = (x0).toInt ∨ (r).toInt = (x1).toInt ∨ (r).toInt = (x2).toInt → post r) : wp_X7_moved post x0 x1 x2 := by
  unfold wp_X7_moved
  refine ⟨fun c101626 => ?_, fun c101627 => ?_⟩
  · replace c101626 := q_neq c101626
    refine ⟨fun c101628 => ?_, fun c101629 => ?_⟩
    · replace c101628 := q_neq c101628
      have p101630 : (x0).toInt = (x0).toInt ∨ (x0).toInt = (x1).toInt ∨ (x0).toInt = (x2).toInt := by omega
      exact k _ p101630
    · replace c101629 := q_eq c101629
      have p101631 : (x1).toInt = (x0).toInt ∨ (x1).toInt = (x1).toInt ∨ (x1).toInt = (x2).toInt := by omega
      exact k _ p101631
  · replace c101627 := q_eq c101627
    have p101632 : (x2).toInt = (x0).toInt ∨ (x2).toInt = (x1).toInt ∨ (x2).toInt = (x2).toInt := by omega
    exact k _ p101632
theorem wq_X7_journey_L23 {s0 : Md} {post : Int32 → Prop} {e82 : Int32 → Int32 → Int32 → Int32 → Int32 → Int32 → Int32 → Prop} {Z Y : Int} (ke82 : ∀ (z1 : Int32) (z2 : Int32) (z3 : Int32) (z4 : Int32) (z5 : Int32) (z6 : Int32) (z7 : Int32), 0 ≤ (z1).toInt ∧ (z1).toInt < 4 ∧ 2 ≤ (z4).toInt ∧ (z4).toInt ≤ 40 ∧ 0 ≤ (z2).toInt ∧ (z2).toInt < (z4).toInt ∧ 0 ≤ (z3).toInt ∧ (z3).toInt < (z4).toInt → 0 ≤ (z6).toInt ∧ (z6).toInt < (z4).toInt ∧ 0 ≤ (z7).toInt ∧ (z7).toInt ≤ (z4).toInt → (z6).toInt = Z → (z4).toInt = Y → e82 z1 z2 z3 z4 z5 z6 z7) : ∀ (n : Nat) (z1 : Int32) (z2 : Int32) (z3 : Int32) (z4 : Int32) (z5 : Int32) (z6 : Int32) (z7 : Int32), 0 ≤ (z1).toInt ∧ (z1).toInt < 4 ∧ 2 ≤ (z4).toInt ∧ (z4).toInt ≤ 40 ∧ 0 ≤ (z2).toInt ∧ (z2).toInt < (z4).toInt ∧ 0 ≤ (z3).toInt ∧ (z3).toInt < (z4).toInt → 0 ≤ (z6).toInt ∧ (z6).toInt < (z4).toInt ∧ 0 ≤ (z7).toInt ∧ (z7).toInt ≤ (z4).toInt → (z6).toInt = Z → (z4).toInt = Y → (z4).toInt - (z7).toInt < (n : Int) → wp_X7_journey_L23 s0 post e82 n z1 z2 z3 z4 z5 z6 z7 := by
  intro n
  induction n with
  | zero =>
    intro z1 z2 z3 z4 z5 z6 z7 i101633 i101634 i101635 i101636 i101637
    exfalso
    omega
  | succ n ih =>
    intro z1 z2 z3 z4 z5 z6 z7 i101633 i101634 i101635 i101636 i101637
    unfold wp_X7_journey_L23
    refine ⟨fun c101638 => ?_, fun c101639 => ?_⟩
    · replace c101638 := q_le c101638
      have p101640 : 0 ≤ (z1).toInt ∧ (z1).toInt < 4 ∧ 2 ≤ (z4).toInt ∧ (z4).toInt ≤ 40 ∧ 0 ≤ (z2).toInt ∧ (z2).toInt < (z4).toInt ∧ 0 ≤ (z3).toInt ∧ (z3).toInt < (z4).toInt := by omega
      have p101641 : 0 ≤ (z6).toInt ∧ (z6).toInt < (z4).toInt ∧ 0 ≤ (z7).toInt ∧ (z7).toInt ≤ (z4).toInt := by omega
      have p101642 : (z6).toInt = Z := by omega
      have p101643 : (z4).toInt = Y := by omega
      exact ke82 _ _ _ _ _ _ _ p101640 p101641 p101642 p101643
    · replace c101639 := q_nle c101639
      have p101644 : 0 ≤ (z1).toInt ∧ (z1).toInt < 4 := by omega
      have p101645 : 0 ≤ (z6).toInt ∧ (z6).toInt < 40 := by omega
      have p101646 : 0 ≤ (z7).toInt ∧ (z7).toInt < 40 := by omega
      refine wq_X7_logged p101644 p101645 p101646 (fun r_5 => ?_)
      refine ⟨fun c101647 => ?_, fun c101648 => ?_⟩
      · replace c101647 := q_le c101647
        rw [li_0] at c101647
        have p101649 : 0 ≤ (z1).toInt ∧ (z1).toInt < 4 ∧ 2 ≤ (z4).toInt ∧ (z4).toInt ≤ 40 ∧ 0 ≤ (z2).toInt ∧ (z2).toInt < (z4).toInt ∧ 0 ≤ (z3).toInt ∧ (z3).toInt < (z4).toInt := by omega
        have e101650 := tq_addr li_1 z7
        try rw [Int.emod_eq_of_lt (show 0 ≤ (z7).toInt + 1 + 2147483648 by omega) (show (z7).toInt + 1 + 2147483648 < 4294967296 by omega)] at e101650
        have p101651 : 0 ≤ (z6).toInt ∧ (z6).toInt < (z4).toInt ∧ 0 ≤ (z7 + 1).toInt ∧ (z7 + 1).toInt ≤ (z4).toInt := by omega
        have p101652 : (z6).toInt = Z := by omega
        have p101653 : (z4).toInt = Y := by omega
        have p101654 : (z4).toInt - (z7 + 1).toInt < ((n : Nat) : Int) := by (omega)
        exact ih _ _ _ _ _ _ _ p101649 p101651 p101652 p101653 p101654
      · replace c101648 := q_nle c101648
        rw [li_0] at c101648
        have p101655 : 0 ≤ (z1).toInt ∧ (z1).toInt < 4 := by omega
        have p101656 : 0 ≤ (z6).toInt ∧ (z6).toInt < 40 := by omega
        have p101657 : 0 ≤ (z7).toInt ∧ (z7).toInt < 40 := by omega
        refine wq_X7_logged p101655 p101656 p101657 (fun r_8 => ?_)
        refine wq_X7_moved (fun r_10 q101658 => ?_)
        refine wq_X7_moved (fun r_12 q101659 => ?_)
        have p101660 : 1 ≤ (z4).toInt ∧ (z4).toInt ≤ 40 := by omega
        have p101661 : 0 ≤ (r_10).toInt ∧ (r_10).toInt < (z4).toInt := by omega
        have p101662 : 0 ≤ (r_12).toInt ∧ (r_12).toInt < (z4).toInt := by omega
        refine wq_X7_on p101660 p101661 p101662 (fun r_14 q101663 => ?_)
        have p101664 : 0 ≤ (z1).toInt ∧ (z1).toInt < 4 ∧ 2 ≤ (z4).toInt ∧ (z4).toInt ≤ 40 ∧ 0 ≤ (z2).toInt ∧ (z2).toInt < (z4).toInt ∧ 0 ≤ (z3).toInt ∧ (z3).toInt < (z4).toInt := by omega
        have e101665 := tq_addr li_1 z7
        try rw [Int.emod_eq_of_lt (show 0 ≤ (z7).toInt + 1 + 2147483648 by omega) (show (z7).toInt + 1 + 2147483648 < 4294967296 by omega)] at e101665
        have p101666 : 0 ≤ (z6).toInt ∧ (z6).toInt < (z4).toInt ∧ 0 ≤ (z7 + 1).toInt ∧ (z7 + 1).toInt ≤ (z4).toInt := by omega
        have p101667 : (z6).toInt = Z := by omega
        have p101668 : (z4).toInt = Y := by omega
        have p101669 : (z4).toInt - (z7 + 1).toInt < ((n : Nat) : Int) := by (omega)
        exact ih _ _ _ _ _ _ _ p101664 p101666 p101667 p101668 p101669
theorem wq_X7_journey_L13 {s0 : Md} {post : Int32 → Prop} {e88 : Int32 → Int32 → Int32 → Int32 → Int32 → Int32 → Prop} (ke88 : ∀ (z1 : Int32) (z2 : Int32) (z3 : Int32) (z4 : Int32) (z5 : Int32) (z6 : Int32), 0 ≤ (z1).toInt ∧ (z1).toInt < 4 ∧ 2 ≤ (z4).toInt ∧ (z4).toInt ≤ 40 ∧ 0 ≤ (z2).toInt ∧ (z2).toInt < (z4).toInt ∧ 0 ≤ (z3).toInt ∧ (z3).toInt < (z4).toInt → 0 ≤ (z6).toInt ∧ (z6).toInt ≤ (z4).toInt → e88 z1 z2 z3 z4 z5 z6) : ∀ (n : Nat) (z1 : Int32) (z2 : Int32) (z3 : Int32) (z4 : Int32) (z5 : Int32) (z6 : Int32), 0 ≤ (z1).toInt ∧ (z1).toInt < 4 ∧ 2 ≤ (z4).toInt ∧ (z4).toInt ≤ 40 ∧ 0 ≤ (z2).toInt ∧ (z2).toInt < (z4).toInt ∧ 0 ≤ (z3).toInt ∧ (z3).toInt < (z4).toInt → 0 ≤ (z6).toInt ∧ (z6).toInt ≤ (z4).toInt → (z4).toInt - (z6).toInt < (n : Int) → wp_X7_journey_L13 s0 post e88 n z1 z2 z3 z4 z5 z6 := by
  intro n
  induction n with
  | zero =>
    intro z1 z2 z3 z4 z5 z6 i101670 i101671 i101672
    exfalso
    omega
  | succ n ih =>
    intro z1 z2 z3 z4 z5 z6 i101670 i101671 i101672
    unfold wp_X7_journey_L13
    refine ⟨fun c101673 => ?_, fun c101674 => ?_⟩
    · replace c101673 := q_le c101673
      have p101675 : 0 ≤ (z1).toInt ∧ (z1).toInt < 4 ∧ 2 ≤ (z4).toInt ∧ (z4).toInt ≤ 40 ∧ 0 ≤ (z2).toInt ∧ (z2).toInt < (z4).toInt ∧ 0 ≤ (z3).toInt ∧ (z3).toInt < (z4).toInt := by omega
      have p101676 : 0 ≤ (z6).toInt ∧ (z6).toInt ≤ (z4).toInt := by omega
      exact ke88 _ _ _ _ _ _ p101675 p101676
    · replace c101674 := q_nle c101674
      have p101677 : 0 ≤ (z1).toInt ∧ (z1).toInt < 4 ∧ 2 ≤ (z4).toInt ∧ (z4).toInt ≤ 40 ∧ 0 ≤ (z2).toInt ∧ (z2).toInt < (z4).toInt ∧ 0 ≤ (z3).toInt ∧ (z3).toInt < (z4).toInt := by omega
      have p101678 : 0 ≤ (z6).toInt ∧ (z6).toInt < (z4).toInt ∧ 0 ≤ (0 : Int32).toInt ∧ (0 : Int32).toInt ≤ (z4).toInt := by (have := li_0; omega)
      have p101679 : (z6).toInt = ((z6).toInt) := by omega
      have p101680 : (z4).toInt = ((z4).toInt) := by omega
      obtain ⟨f101681, g101682⟩ := fu_e 50
      have p101683 : (z4).toInt - (0 : Int32).toInt < (f101681 : Int) := by (have := li_0; omega)
      refine ⟨f101681, wq_X7_journey_L23 (fun z1_101684 z2_101685 z3_101686 z4_101687 z5_101688 z6_101689 z7 q101690 q101691 q101692 q101693 => ?_) f101681 _ _ _ _ _ _ _ p101677 p101678 p101679 p101680 p101683⟩
      have p101694 : 0 ≤ (z1_101684).toInt ∧ (z1_101684).toInt < 4 ∧ 2 ≤ (z4_101687).toInt ∧ (z4_101687).toInt ≤ 40 ∧ 0 ≤ (z2_101685).toInt ∧ (z2_101685).toInt < (z4_101687).toInt ∧ 0 ≤ (z3_101686).toInt ∧ (z3_101686).toInt < (z4_101687).toInt := by omega
      have e101695 := tq_addr li_1 z6_101689
      try rw [Int.emod_eq_of_lt (show 0 ≤ (z6_101689).toInt + 1 + 2147483648 by omega) (show (z6_101689).toInt + 1 + 2147483648 < 4294967296 by omega)] at e101695
      have p101696 : 0 ≤ (z6_101689 + 1).toInt ∧ (z6_101689 + 1).toInt ≤ (z4_101687).toInt := by omega
      have p101697 : (z4_101687).toInt - (z6_101689 + 1).toInt < ((n : Nat) : Int) := by (omega)
      exact ih _ _ _ _ _ _ p101694 p101696 p101697
theorem wq_X7_journey {post : Int32 → Prop} {s0 : Md} {x1 : Int32} {x2 : Int32} {x3 : Int32} {N R W D : Int} (h101698 : mb (N) (R) (W) (D) s0) (h101699 : 0 ≤ (x1).toInt ∧ (x1).toInt < D) (h101700 : 0 ≤ (x2).toInt ∧ (x2).toInt < d_f ((s0.2.2.1 0)) (x1).toInt.toNat ∧ 0 ≤ (x3).toInt ∧ (x3).toInt < d_f ((s0.2.2.1 0)) (x1).toInt.toNat) (k : ∀ (r : Int32), post r) : wp_X7_journey post s0 x1 x2 x3 := by
  unfold wp_X7_journey
  have := h101698.1
  have := h101698.2.1
  have := h101698.2.2.1
  have := h101698.2.2.2.1
  have p101701 : 0 ≤ (x1).toInt ∧ (x1).toInt < 4 := by omega
  refine wq_X7_flapsOf h101698 p101701 (fun r_1 q101702 => ?_)
  have p101703 : 0 ≤ (x1).toInt ∧ (x1).toInt < 4 ∧ 2 ≤ (r_1).toInt ∧ (r_1).toInt ≤ 40 ∧ 0 ≤ (x2).toInt ∧ (x2).toInt < (r_1).toInt ∧ 0 ≤ (x3).toInt ∧ (x3).toInt < (r_1).toInt := by omega
  have p101704 : 0 ≤ (0 : Int32).toInt ∧ (0 : Int32).toInt ≤ (r_1).toInt := by (have := li_0; omega)
  obtain ⟨f101705, g101706⟩ := fu_e 50
  have p101707 : (r_1).toInt - (0 : Int32).toInt < (f101705 : Int) := by (have := li_0; omega)
  refine ⟨f101705, wq_X7_journey_L13 (fun z1 z2 z3 z4 z5 z6 q101708 q101709 => ?_) f101705 _ _ _ _ _ _ p101703 p101704 p101707⟩
  exact k _
theorem wq_X7_entries_L15 {s0 : Md} {post : Int32 → Prop} {e64 : Int32 → Int32 → Int32 → Int32 → Int32 → Prop} {Z : Int} (ke64 : ∀ (z1 : Int32) (z2 : Int32) (z3 : Int32) (z4 : Int32) (z5 : Int32), 0 ≤ (z1).toInt ∧ (z1).toInt < 4 ∧ 0 ≤ (z4).toInt ∧ (z4).toInt < 40 ∧ 0 ≤ (z5).toInt ∧ (z5).toInt ≤ 40 → (z4).toInt = Z → e64 z1 z2 z3 z4 z5) : ∀ (n : Nat) (z1 : Int32) (z2 : Int32) (z3 : Int32) (z4 : Int32) (z5 : Int32), 0 ≤ (z1).toInt ∧ (z1).toInt < 4 ∧ 0 ≤ (z4).toInt ∧ (z4).toInt < 40 ∧ 0 ≤ (z5).toInt ∧ (z5).toInt ≤ 40 → (z4).toInt = Z → 40 - (z5).toInt < (n : Int) → wp_X7_entries_L15 s0 post e64 n z1 z2 z3 z4 z5 := by
  intro n
  induction n with
  | zero =>
    intro z1 z2 z3 z4 z5 i101710 i101711 i101712
    exfalso
    omega
  | succ n ih =>
    intro z1 z2 z3 z4 z5 i101710 i101711 i101712
    unfold wp_X7_entries_L15
    refine ⟨fun c101713 => ?_, fun c101714 => ?_⟩
    · replace c101713 := q_le c101713
      rw [li_40] at c101713
      have p101715 : 0 ≤ (z1).toInt ∧ (z1).toInt < 4 ∧ 0 ≤ (z4).toInt ∧ (z4).toInt < 40 ∧ 0 ≤ (z5).toInt ∧ (z5).toInt ≤ 40 := by omega
      have p101716 : (z4).toInt = Z := by omega
      exact ke64 _ _ _ _ _ p101715 p101716
    · replace c101714 := q_nle c101714
      rw [li_40] at c101714
      refine ⟨fun c101717 => ?_, fun c101718 => ?_⟩
      · replace c101717 := q_eq c101717
        rw [li_0] at c101717
        have p101719 : 0 ≤ (z1).toInt ∧ (z1).toInt < 4 := by omega
        have p101720 : 0 ≤ (z4).toInt ∧ (z4).toInt < 40 := by omega
        have p101721 : 0 ≤ (z5).toInt ∧ (z5).toInt < 40 := by omega
        refine wq_X7_logged p101719 p101720 p101721 (fun r_4 => ?_)
        have e101722 := tq_addr li_1 z5
        try rw [Int.emod_eq_of_lt (show 0 ≤ (z5).toInt + 1 + 2147483648 by omega) (show (z5).toInt + 1 + 2147483648 < 4294967296 by omega)] at e101722
        have p101723 : 0 ≤ (z1).toInt ∧ (z1).toInt < 4 ∧ 0 ≤ (z4).toInt ∧ (z4).toInt < 40 ∧ 0 ≤ (z5 + 1).toInt ∧ (z5 + 1).toInt ≤ 40 := by omega
        have p101724 : (z4).toInt = Z := by omega
        have p101725 : 40 - (z5 + 1).toInt < ((n : Nat) : Int) := by (omega)
        exact ih _ _ _ _ _ p101723 p101724 p101725
      · replace c101718 := q_neq c101718
        rw [li_0] at c101718
        have p101726 : 0 ≤ (z1).toInt ∧ (z1).toInt < 4 := by omega
        have p101727 : 0 ≤ (z4).toInt ∧ (z4).toInt < 40 := by omega
        have p101728 : 0 ≤ (z5).toInt ∧ (z5).toInt < 40 := by omega
        refine wq_X7_logged p101726 p101727 p101728 (fun r_6 => ?_)
        refine ⟨fun c101729 => ?_, fun c101730 => ?_⟩
        · replace c101729 := q_le c101729
          rw [li_0] at c101729
          have e101731 := tq_addr li_1 z5
          try rw [Int.emod_eq_of_lt (show 0 ≤ (z5).toInt + 1 + 2147483648 by omega) (show (z5).toInt + 1 + 2147483648 < 4294967296 by omega)] at e101731
          have p101732 : 0 ≤ (z1).toInt ∧ (z1).toInt < 4 ∧ 0 ≤ (z4).toInt ∧ (z4).toInt < 40 ∧ 0 ≤ (z5 + 1).toInt ∧ (z5 + 1).toInt ≤ 40 := by omega
          have p101733 : (z4).toInt = Z := by omega
          have p101734 : 40 - (z5 + 1).toInt < ((n : Nat) : Int) := by (omega)
          exact ih _ _ _ _ _ p101732 p101733 p101734
        · replace c101730 := q_nle c101730
          rw [li_0] at c101730
          have e101735 := tq_addr li_1 z5
          try rw [Int.emod_eq_of_lt (show 0 ≤ (z5).toInt + 1 + 2147483648 by omega) (show (z5).toInt + 1 + 2147483648 < 4294967296 by omega)] at e101735
          have p101736 : 0 ≤ (z1).toInt ∧ (z1).toInt < 4 ∧ 0 ≤ (z4).toInt ∧ (z4).toInt < 40 ∧ 0 ≤ (z5 + 1).toInt ∧ (z5 + 1).toInt ≤ 40 := by omega
          have p101737 : (z4).toInt = Z := by omega
          have p101738 : 40 - (z5 + 1).toInt < ((n : Nat) : Int) := by (omega)
          exact ih _ _ _ _ _ p101736 p101737 p101738
theorem wq_X7_entries_L5 {s0 : Md} {post : Int32 → Prop} {e70 : Int32 → Int32 → Int32 → Int32 → Prop} (ke70 : ∀ (z1 : Int32) (z2 : Int32) (z3 : Int32) (z4 : Int32), 0 ≤ (z1).toInt ∧ (z1).toInt < 4 ∧ 0 ≤ (z4).toInt ∧ (z4).toInt ≤ 40 → e70 z1 z2 z3 z4) : ∀ (n : Nat) (z1 : Int32) (z2 : Int32) (z3 : Int32) (z4 : Int32), 0 ≤ (z1).toInt ∧ (z1).toInt < 4 ∧ 0 ≤ (z4).toInt ∧ (z4).toInt ≤ 40 → 40 - (z4).toInt < (n : Int) → wp_X7_entries_L5 s0 post e70 n z1 z2 z3 z4 := by
  intro n
  induction n with
  | zero =>
    intro z1 z2 z3 z4 i101739 i101740
    exfalso
    omega
  | succ n ih =>
    intro z1 z2 z3 z4 i101739 i101740
    unfold wp_X7_entries_L5
    refine ⟨fun c101741 => ?_, fun c101742 => ?_⟩
    · replace c101741 := q_le c101741
      rw [li_40] at c101741
      have p101743 : 0 ≤ (z1).toInt ∧ (z1).toInt < 4 ∧ 0 ≤ (z4).toInt ∧ (z4).toInt ≤ 40 := by omega
      exact ke70 _ _ _ _ p101743
    · replace c101742 := q_nle c101742
      rw [li_40] at c101742
      have p101744 : 0 ≤ (z1).toInt ∧ (z1).toInt < 4 ∧ 0 ≤ (z4).toInt ∧ (z4).toInt < 40 ∧ 0 ≤ (0 : Int32).toInt ∧ (0 : Int32).toInt ≤ 40 := by (have := li_0; omega)
      have p101745 : (z4).toInt = ((z4).toInt) := by omega
      obtain ⟨f101746, g101747⟩ := fu_e 50
      have p101748 : 40 - (0 : Int32).toInt < (f101746 : Int) := by (have := li_0; omega)
      refine ⟨f101746, wq_X7_entries_L15 (fun z1_101749 z2_101750 z3_101751 z4_101752 z5 q101753 q101754 => ?_) f101746 _ _ _ _ _ p101744 p101745 p101748⟩
      have e101755 := tq_addr li_1 z4_101752
      try rw [Int.emod_eq_of_lt (show 0 ≤ (z4_101752).toInt + 1 + 2147483648 by omega) (show (z4_101752).toInt + 1 + 2147483648 < 4294967296 by omega)] at e101755
      have p101756 : 0 ≤ (z1_101749).toInt ∧ (z1_101749).toInt < 4 ∧ 0 ≤ (z4_101752 + 1).toInt ∧ (z4_101752 + 1).toInt ≤ 40 := by omega
      have p101757 : 40 - (z4_101752 + 1).toInt < ((n : Nat) : Int) := by (omega)
      exact ih _ _ _ _ p101756 p101757
theorem wq_X7_entries {post : Int32 → Prop} {s0 : Md} {x1 : Int32} {x2 : Int32} (h101758 : 0 ≤ (x1).toInt ∧ (x1).toInt < 4) (k : ∀ (r : Int32), post r) : wp_X7_entries post s0 x1 x2 := by
  unfold wp_X7_entries
  have p101759 : 0 ≤ (x1).toInt ∧ (x1).toInt < 4 ∧ 0 ≤ (0 : Int32).toInt ∧ (0 : Int32).toInt ≤ 40 := by (have := li_0; omega)
  obtain ⟨f101760, g101761⟩ := fu_e 50
  have p101762 : 40 - (0 : Int32).toInt < (f101760 : Int) := by (have := li_0; omega)
  refine ⟨f101760, wq_X7_entries_L5 (fun z1 z2 z3 z4 q101763 => ?_) f101760 _ _ _ _ p101759 p101762⟩
  exact k _
theorem wq_X7_log {post : Int32 → Prop} {s0 : Md} {x1 : Int32} {x2 : Int32} {N R W D : Int} (h101764 : mb (N) (R) (W) (D) s0) (k : ∀ (r : Int32), post r) : wp_X7_log post s0 x1 x2 := by
  unfold wp_X7_log
  have := h101764.1
  have := h101764.2.1
  have := h101764.2.2.1
  have := h101764.2.2.2.1
  refine wq_X7_isDrum h101764 (fun r_1 q101765 => ?_)
  refine ⟨fun c101766 => ?_, fun c101767 => ?_⟩
  · replace c101766 := q_eq c101766
    rw [li_0] at c101766
    exact k _
  · replace c101767 := q_neq c101767
    rw [li_0] at c101767
    refine wq_X7_in (fun r_4 q101768 => ?_)
    try simp only [lj_0, lj_2] at q101768
    have := tq_64 x2
    refine ⟨fun c101769 => ?_, fun c101770 => ?_⟩
    · replace c101769 := q_neq c101769
      rw [li_0] at c101769
      refine ⟨fun c101771 => ?_, fun c101772 => ?_⟩
      · replace c101771 := q_neq c101771
        rw [li_0] at c101771
        refine ⟨fun c101773 => ?_, fun c101774 => ?_⟩
        · replace c101773 := q_neq c101773
          rw [li_2] at c101773
          have p101775 : 0 ≤ (x1).toInt ∧ (x1).toInt < 4 := by omega
          refine wq_X7_entries p101775 (fun r_9 => ?_)
          exact k _
        · replace c101774 := q_eq c101774
          rw [li_2] at c101774
          have p101776 : 0 ≤ (x1).toInt ∧ (x1).toInt < 4 := by omega
          refine wq_X7_entries p101776 (fun r_11 => ?_)
          exact k _
      · replace c101772 := q_eq c101772
        rw [li_0] at c101772
        have p101777 : 0 ≤ (x1).toInt ∧ (x1).toInt < D := by omega
        try have := rw_dk h101764.2.2.2.2.1 (show 0 ≤ (x1).toInt ∧ (x1).toInt < D by omega)
        have p101778 : 0 ≤ ((0 : Int32)).toInt ∧ ((0 : Int32)).toInt < d_f ((s0.2.2.1 0)) (x1).toInt.toNat ∧ 0 ≤ ((0 : Int32)).toInt ∧ ((0 : Int32)).toInt < d_f ((s0.2.2.1 0)) (x1).toInt.toNat := by (have := li_0; omega)
        refine wq_X7_journey h101764 p101777 p101778 (fun r_13 => ?_)
        exact k _
    · replace c101770 := q_eq c101770
      rw [li_0] at c101770
      exact k _
theorem wq_X7_often_L33 {s0 : Md} {post : Int32 → Prop} {e74 : Int32 → Int32 → Int32 → Int32 → Int32 → Prop} (ke74 : ∀ (z1 : Int32) (z2 : Int32) (z3 : Int32) (z4 : Int32) (z5 : Int32), 0 ≤ (z1).toInt ∧ (z1).toInt < 4 ∧ 0 ≤ (z2).toInt ∧ (z2).toInt < 40 ∧ 0 ≤ (z5).toInt ∧ (z5).toInt ≤ 40 → e74 z1 z2 z3 z4 z5) : ∀ (n : Nat) (z1 : Int32) (z2 : Int32) (z3 : Int32) (z4 : Int32) (z5 : Int32), 0 ≤ (z1).toInt ∧ (z1).toInt < 4 ∧ 0 ≤ (z2).toInt ∧ (z2).toInt < 40 ∧ 0 ≤ (z5).toInt ∧ (z5).toInt ≤ 40 → 40 - (z5).toInt < (n : Int) → wp_X7_often_L33 s0 post e74 n z1 z2 z3 z4 z5 := by
  intro n
  induction n with
  | zero =>
    intro z1 z2 z3 z4 z5 i101779 i101780
    exfalso
    omega
  | succ n ih =>
    intro z1 z2 z3 z4 z5 i101779 i101780
    unfold wp_X7_often_L33
    refine ⟨fun c101781 => ?_, fun c101782 => ?_⟩
    · replace c101781 := q_le c101781
      rw [li_40] at c101781
      have p101783 : 0 ≤ (z1).toInt ∧ (z1).toInt < 4 ∧ 0 ≤ (z2).toInt ∧ (z2).toInt < 40 ∧ 0 ≤ (z5).toInt ∧ (z5).toInt ≤ 40 := by omega
      exact ke74 _ _ _ _ _ p101783
    · replace c101782 := q_nle c101782
      rw [li_40] at c101782
      refine ⟨fun c101784 => ?_, fun c101785 => ?_⟩
      · replace c101784 := q_eq c101784
        rw [li_0] at c101784
        have p101786 : 0 ≤ (z1).toInt ∧ (z1).toInt < 4 := by omega
        have p101787 : 0 ≤ (z2).toInt ∧ (z2).toInt < 40 := by omega
        have p101788 : 0 ≤ (z5).toInt ∧ (z5).toInt < 40 := by omega
        refine wq_X7_logged p101786 p101787 p101788 (fun r_11 => ?_)
        have e101789 := tq_addr li_1 z5
        try rw [Int.emod_eq_of_lt (show 0 ≤ (z5).toInt + 1 + 2147483648 by omega) (show (z5).toInt + 1 + 2147483648 < 4294967296 by omega)] at e101789
        have p101790 : 0 ≤ (z1).toInt ∧ (z1).toInt < 4 ∧ 0 ≤ (z2).toInt ∧ (z2).toInt < 40 ∧ 0 ≤ (z5 + 1).toInt ∧ (z5 + 1).toInt ≤ 40 := by omega
        have p101791 : 40 - (z5 + 1).toInt < ((n : Nat) : Int) := by (omega)
        exact ih _ _ _ _ _ p101790 p101791
      · replace c101785 := q_neq c101785
        rw [li_0] at c101785
        have p101792 : 0 ≤ (z1).toInt ∧ (z1).toInt < 4 := by omega
        have p101793 : 0 ≤ (z5).toInt ∧ (z5).toInt < 40 := by omega
        have p101794 : 0 ≤ (z2).toInt ∧ (z2).toInt < 40 := by omega
        refine wq_X7_logged p101792 p101793 p101794 (fun r_13 => ?_)
        have e101795 := tq_addr li_1 z5
        try rw [Int.emod_eq_of_lt (show 0 ≤ (z5).toInt + 1 + 2147483648 by omega) (show (z5).toInt + 1 + 2147483648 < 4294967296 by omega)] at e101795
        have p101796 : 0 ≤ (z1).toInt ∧ (z1).toInt < 4 ∧ 0 ≤ (z2).toInt ∧ (z2).toInt < 40 ∧ 0 ≤ (z5 + 1).toInt ∧ (z5 + 1).toInt ≤ 40 := by omega
        have p101797 : 40 - (z5 + 1).toInt < ((n : Nat) : Int) := by (omega)
        exact ih _ _ _ _ _ p101796 p101797
theorem wq_X7_often {post : Int32 → Prop} {s0 : Md} {x1 : Int32} {x2 : Int32} {x3 : Int32} {N R W D : Int} (h101798 : mb (N) (R) (W) (D) s0) (k : ∀ (r : Int32), post r) : wp_X7_often post s0 x1 x2 x3 := by
  unfold wp_X7_often
  have := h101798.1
  have := h101798.2.1
  have := h101798.2.2.1
  have := h101798.2.2.2.1
  refine wq_X7_isDrum h101798 (fun r_1 q101799 => ?_)
  refine ⟨fun c101800 => ?_, fun c101801 => ?_⟩
  · replace c101800 := q_eq c101800
    rw [li_0] at c101800
    exact k _
  · replace c101801 := q_neq c101801
    rw [li_0] at c101801
    have p101802 : 0 ≤ (x1).toInt ∧ (x1).toInt < 4 := by omega
    refine wq_X7_flapsOf h101798 p101802 (fun r_4 q101803 => ?_)
    refine wq_X7_in (fun r_6 q101804 => ?_)
    try simp only [lj_0] at q101804
    have := tq_64 x2
    have e101805 := tq_subr li_1 r_4
    try rw [Int.emod_eq_of_lt (show 0 ≤ (r_4).toInt - 1 + 2147483648 by omega) (show (r_4).toInt - 1 + 2147483648 < 4294967296 by omega)] at e101805
    have := tq_64 (r_4 - 1)
    refine ⟨fun c101806 => ?_, fun c101807 => ?_⟩
    · replace c101806 := q_neq c101806
      rw [li_0] at c101806
      have p101808 : 0 ≤ (x1).toInt ∧ (x1).toInt < 4 ∧ 0 ≤ (x2).toInt ∧ (x2).toInt < 40 ∧ 0 ≤ (0 : Int32).toInt ∧ (0 : Int32).toInt ≤ 40 := by (have := li_0; omega)
      obtain ⟨f101809, g101810⟩ := fu_e 50
      have p101811 : 40 - (0 : Int32).toInt < (f101809 : Int) := by (have := li_0; omega)
      refine ⟨f101809, wq_X7_often_L33 (fun z1 z2 z3 z4 z5 q101812 => ?_) f101809 _ _ _ _ _ p101808 p101811⟩
      exact k _
    · replace c101807 := q_eq c101807
      rw [li_0] at c101807
      exact k _
