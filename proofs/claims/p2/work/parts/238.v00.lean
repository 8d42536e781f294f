theorem wq_X7_readsWorn {post : Int32 → Md → Prop} {s0 : Md} {N R W D : Int} (h102619 : mb (N) (R) (W) (D) s0) (h102620 : 0 < D) (h102621 : R ≤ 0 ∨ 0 < D) (h102622 : 0 ≤ (s0.1 6).toInt ∧ (s0.1 6).toInt + 4 ≤ N) (k : ∀ (r : Int32) (u : Md), mb (N) (R) (W) (D) u → ie [1, 2, 6, 7, 8, 9, 10, 11, 12, 13] u.1 s0.1 → (r).toInt = 0 ∨ (r).toInt = 1 → (s0.1 6).toInt ≤ (u.1 6).toInt ∧ (u.1 6).toInt ≤ N → post r u) : wp_X7_readsWorn post s0 := by
  unfold wp_X7_readsWorn
  have := h102619.1
  have := h102619.2.1
  have := h102619.2.2.1
  have := h102619.2.2.2.1
  have p102623 : (s0.1 5).toInt = N := by omega
  have p102624 : 0 ≤ (s0.1 0).toInt ∧ (s0.1 0).toInt ≤ 10 := by omega
  have p102625 : 0 ≤ N ∧ N ≤ 400 := by omega
  have p102626 : 0 ≤ R ∧ R ≤ 6 ∧ 0 ≤ W ∧ W ≤ 10 ∧ 0 ≤ R * W ∧ R * W ≤ 40 ∧ 0 ≤ D ∧ D ≤ 4 ∧ (D ≤ 0 ∨ 1 ≤ R) ∧ (1 ≤ R ∨ R * W = 0) := by omega
  have B102627 : mb (N) (R) (W) (D) ((va_up s0.1 6 ((s0.1 6) + 4)), s0.2.1, s0.2.2.1, s0.2.2.2) := ⟨p102623, p102624, p102625, p102626, h102619.2.2.2.2.1, h102619.2.2.2.2.2.1, h102619.2.2.2.2.2.2.1, h102619.2.2.2.2.2.2.2⟩
  refine wq_X7_cells B102627 (fun r_1 q102628 => ?_)
  replace q102628 : (r_1).toInt = R * W := q102628
  have e102629 := tq_addr li_4 (s0.1 6)
  try rw [Int.emod_eq_of_lt (show 0 ≤ (s0.1 6).toInt + 4 + 2147483648 by omega) (show (s0.1 6).toInt + 4 + 2147483648 < 4294967296 by omega)] at e102629
  have p102630 : 0 ≤ ((s0.1 6) + 4).toInt ∧ ((s0.1 6) + 4).toInt ≤ N := by omega
  refine wq_X7_readsNumber B102627 p102630 (fun r_3 u_4 q102631 q102632 q102633 q102634 q102635 q102636 => ?_)
  have := q102631.1
  have := q102631.2.1
  replace q102633 : (r_3).toInt = 0 ∨ (r_3).toInt = 1 := q102633
  replace q102634 : ((s0.1 6) + 4).toInt ≤ (u_4.1 6).toInt ∧ (u_4.1 6).toInt ≤ N := q102634
  replace q102635 : (r_3).toInt = 0 ∨ (((0 : Int32)).toInt ≤ (u_4.1 8).toInt ∧ (u_4.1 8).toInt ≤ (r_1 - 1).toInt) := q102635
  try simp only [li_0] at q102635
  have e102637 := tq_subr li_1 r_1
  try rw [Int.emod_eq_of_lt (show 0 ≤ (r_1).toInt - 1 + 2147483648 by omega) (show (r_1).toInt - 1 + 2147483648 < 4294967296 by omega)] at e102637
  refine ⟨fun c102638 => ?_, fun c102639 => ?_⟩
  · replace c102638 := q_neq c102638
    rw [li_0] at c102638
    have p102640 : 0 ≤ (u_4.1 8).toInt ∧ (u_4.1 8).toInt < 40 := by omega
    refine wq_X7_flaps q102631 p102640 (fun r_6 q102641 => ?_)
    have p102642 : 0 ≤ (u_4.1 6).toInt ∧ (u_4.1 6).toInt ≤ N := by omega
    refine wq_X7_readsNumber q102631 p102642 (fun r_8 u_9 q102643 q102644 q102645 q102646 q102647 q102648 => ?_)
    have := q102643.1
    have := q102643.2.1
    try simp only [li_1] at q102647
    have e102649 := tq_subr li_1 r_6
    try rw [Int.emod_eq_of_lt (show 0 ≤ (r_6).toInt - 1 + 2147483648 by omega) (show (r_6).toInt - 1 + 2147483648 < 4294967296 by omega)] at e102649
    refine ⟨fun c102650 => ?_, fun c102651 => ?_⟩
    · replace c102650 := q_neq c102650
      rw [li_0] at c102650
      have p102652 : 0 ≤ (u_4.1 8).toInt ∧ (u_4.1 8).toInt < 40 := by omega
      refine wq_X7_wornOf p102652 (fun r_11 => ?_)
      refine wq_X7_isIn (fun r_13 q102653 => ?_)
      refine ⟨fun c102654 => ?_, fun c102655 => ?_⟩
      · replace c102654 := q_eq c102654
        rw [li_0] at c102654
        have p102656 : 0 ≤ (u_4.1 8).toInt ∧ (u_4.1 8).toInt < 40 := by omega
        have p102657 : 0 < D := by omega
        refine wq_X7_wears q102643 p102656 p102657 (fun u_17 q102658 q102659 => ?_)
        have := q102658.1
        have := q102658.2.1
        have p102660 : ie [1, 2, 6, 7, 8, 9, 10, 11, 12, 13] u_17.1 s0.1 := (ie_tr q102659 (by decide) (ie_tr q102644 (by decide) (ie_tr q102632 (by decide) (ie_up (ie_refl _ _) (by decide)))))
        have p102661 : (1 : Int32).toInt = 0 ∨ (1 : Int32).toInt = 1 := by (have := li_1; omega)
        have : (u_17.1 6).toInt = (u_9.1 6).toInt := ie_i q102659 6 (by decide)
        have p102662 : (s0.1 6).toInt ≤ (u_17.1 6).toInt ∧ (u_17.1 6).toInt ≤ N := by omega
        exact k _ _ q102658 p102660 p102661 p102662
      · replace c102655 := q_neq c102655
        rw [li_0] at c102655
        refine wq_X7_fails q102643 (fun r_18 u_19 q102663 q102664 q102665 q102666 => ?_)
        have := q102663.1
        have := q102663.2.1
        refine ⟨(nb_b (by omega)), ?_⟩
        have p102667 : ie [1, 2, 6, 7, 8, 9, 10, 11, 12, 13] u_19.1 s0.1 := (ie_tr q102664 (by decide) (ie_tr q102644 (by decide) (ie_tr q102632 (by decide) (ie_up (ie_refl _ _) (by decide)))))
        have p102668 : (r_18).toInt = 0 ∨ (r_18).toInt = 1 := by omega
        have : (u_19.1 6).toInt = (u_9.1 6).toInt := ie_i q102664 6 (by decide)
        have p102669 : (s0.1 6).toInt ≤ (u_19.1 6).toInt ∧ (u_19.1 6).toInt ≤ N := by omega
        exact k _ _ q102663 p102667 p102668 p102669
    · replace c102651 := q_eq c102651
      rw [li_0] at c102651
      have p102670 : ie [1, 2, 6, 7, 8, 9, 10, 11, 12, 13] u_9.1 s0.1 := (ie_tr q102644 (by decide) (ie_tr q102632 (by decide) (ie_up (ie_refl _ _) (by decide))))
      have p102671 : (0 : Int32).toInt = 0 ∨ (0 : Int32).toInt = 1 := by (have := li_0; omega)
      have p102672 : (s0.1 6).toInt ≤ (u_9.1 6).toInt ∧ (u_9.1 6).toInt ≤ N := by omega
      exact k _ _ q102643 p102670 p102671 p102672
  · replace c102639 := q_eq c102639
    rw [li_0] at c102639
    have p102673 : ie [1, 2, 6, 7, 8, 9, 10, 11, 12, 13] u_4.1 s0.1 := (ie_tr q102632 (by decide) (ie_up (ie_refl _ _) (by decide)))
    have p102674 : (0 : Int32).toInt = 0 ∨ (0 : Int32).toInt = 1 := by (have := li_0; omega)
    have p102675 : (s0.1 6).toInt ≤ (u_4.1 6).toInt ∧ (u_4.1 6).toInt ≤ N := by omega
    exact k _ _ q102631 p102673 p102674 p102675
theorem wq_X7_readsRow_L62 {post : Int32 → Md → Prop} {e116 : Md → Int32 → Int32 → Int32 → Prop} {D N R W : Int} {A : Nat → Int32} (h102676 : 0 < D) (ke116 : ∀ (t0 : Md) (z1 : Int32) (z2 : Int32) (z3 : Int32), mb (N) (R) (W) (D) t0 → ie [] t0.1 A → 0 ≤ (z1).toInt ∧ (z1).toInt < R → 0 ≤ (z3).toInt ∧ (z3).toInt ≤ W → e116 t0 z1 z2 z3) : ∀ (n : Nat) (t0 : Md) (z1 : Int32) (z2 : Int32) (z3 : Int32), mb (N) (R) (W) (D) t0 → ie [] t0.1 A → 0 ≤ (z1).toInt ∧ (z1).toInt < R → 0 ≤ (z3).toInt ∧ (z3).toInt ≤ W → W - (z3).toInt < (n : Int) → wp_X7_readsRow_L62 post e116 n t0 z1 z2 z3 := by
  intro n
  induction n with
  | zero =>
    intro t0 z1 z2 z3 i102677 i102678 i102679 i102680 i102681
    have := i102677.1
    have := i102677.2.1
    have := i102677.2.2.1
    have := i102677.2.2.2.1
    exfalso
    omega
  | succ n ih =>
    intro t0 z1 z2 z3 i102677 i102678 i102679 i102680 i102681
    unfold wp_X7_readsRow_L62
    have := i102677.1
    have := i102677.2.1
    have := i102677.2.2.1
    have := i102677.2.2.2.1
    refine wq_X7_wide i102677 (fun r_13 q102682 => ?_)
    refine ⟨fun c102683 => ?_, fun c102684 => ?_⟩
    · replace c102683 := q_le c102683
      have p102685 : ie [] t0.1 A := (ie_tr i102678 (by decide) (ie_refl _ _))
      have p102686 : 0 ≤ (z1).toInt ∧ (z1).toInt < R := by omega
      have p102687 : 0 ≤ (z3).toInt ∧ (z3).toInt ≤ W := by omega
      exact ke116 _ _ _ _ i102677 p102685 p102686 p102687
    · replace c102684 := q_nle c102684
      refine wq_X7_wide i102677 (fun r_16 q102688 => ?_)
      have := rw_r (a := z1) (b := r_16) (R := R) (W := W) (by omega) (by omega) (by omega)
      have e102689 := tq_add (r_16 * z1) z3
      try rw [Int.emod_eq_of_lt (show 0 ≤ (r_16 * z1).toInt + (z3).toInt + 2147483648 by omega) (show (r_16 * z1).toInt + (z3).toInt + 2147483648 < 4294967296 by omega)] at e102689
      have p102690 : 0 ≤ ((r_16 * z1) + z3).toInt ∧ ((r_16 * z1) + z3).toInt < 40 := by omega
      refine wq_X7_of_3 i102677 p102690 (fun r_18 q102691 q102692 => ?_)
      have p102693 : 0 ≤ ((r_16 * z1) + z3).toInt ∧ ((r_16 * z1) + z3).toInt < 40 := by omega
      have := tq_64 r_18
      try have := rw_k i102677.2.2.2.2.1 (show 0 ≤ (((r_16 * z1) + z3)).toInt ∧ (((r_16 * z1) + z3)).toInt < 40 by omega)
      have p102694 : 0 ≤ (Int32.toInt64 r_18).toInt ∧ ((D ≤ 0 ∧ (Int32.toInt64 r_18).toInt = 0) ∨ (0 < D ∧ (Int32.toInt64 r_18).toInt < fl_c ((t0.2.2.1 0)) ((r_16 * z1) + z3))) := by omega
      refine wq_X7_sets_1 i102677 p102693 p102694 (fun u_21 q102695 q102696 q102697 => ?_)
      have := q102695.1
      have := q102695.2.1
      have p102698 : 0 ≤ ((r_16 * z1) + z3).toInt ∧ ((r_16 * z1) + z3).toInt < 40 := by omega
      refine wq_X7_of_3 q102695 p102698 (fun r_22 q102699 q102700 => ?_)
      have p102701 : 0 ≤ ((r_16 * z1) + z3).toInt ∧ ((r_16 * z1) + z3).toInt < 40 := by omega
      have := tq_64 r_22
      try have := rw_k q102695.2.2.2.2.1 (show 0 ≤ (((r_16 * z1) + z3)).toInt ∧ (((r_16 * z1) + z3)).toInt < 40 by omega)
      have p102702 : 0 ≤ (Int32.toInt64 r_22).toInt ∧ ((D ≤ 0 ∧ (Int32.toInt64 r_22).toInt = 0) ∨ (0 < D ∧ (Int32.toInt64 r_22).toInt < fl_c ((u_21.2.2.1 0)) ((r_16 * z1) + z3))) := by omega
      refine wq_X7_sets_2 q102695 p102701 p102702 (fun u_25 q102703 q102704 q102705 => ?_)
      have := q102703.1
      have := q102703.2.1
      have p102706 : ie [] u_25.1 A := (ie_tr q102704 (by decide) (ie_tr q102696 (by decide) (ie_tr i102678 (by decide) (ie_refl _ _))))
      have p102707 : 0 ≤ (z1).toInt ∧ (z1).toInt < R := by omega
      have e102708 := tq_addr li_1 z3
      try rw [Int.emod_eq_of_lt (show 0 ≤ (z3).toInt + 1 + 2147483648 by omega) (show (z3).toInt + 1 + 2147483648 < 4294967296 by omega)] at e102708
      have p102709 : 0 ≤ (z3 + 1).toInt ∧ (z3 + 1).toInt ≤ W := by omega
      have p102710 : W - (z3 + 1).toInt < ((n : Nat) : Int) := by (omega)
      exact ih _ _ _ _ q102703 p102706 p102707 p102709 p102710
theorem wq_X7_readsRow {post : Int32 → Md → Prop} {s0 : Md} {N R W D : Int} (h102711 : mb (N) (R) (W) (D) s0) (h102712 : 0 < D) (h102713 : 0 ≤ (s0.1 6).toInt ∧ (s0.1 6).toInt + 3 ≤ N) (k : ∀ (r : Int32) (u : Md), mb (N) (R) (W) (D) u → ie [1, 2, 6, 7, 8, 9, 10, 11, 12, 13] u.1 s0.1 → (r).toInt = 0 ∨ (r).toInt = 1 → (s0.1 6).toInt ≤ (u.1 6).toInt ∧ (u.1 6).toInt ≤ N → post r u) : wp_X7_readsRow post s0 := by
  unfold wp_X7_readsRow
  have := h102711.1
  have := h102711.2.1
  have := h102711.2.2.1
  have := h102711.2.2.2.1
  have p102714 : (s0.1 5).toInt = N := by omega
  have p102715 : 0 ≤ (s0.1 0).toInt ∧ (s0.1 0).toInt ≤ 10 := by omega
  have p102716 : 0 ≤ N ∧ N ≤ 400 := by omega
  have p102717 : 0 ≤ R ∧ R ≤ 6 ∧ 0 ≤ W ∧ W ≤ 10 ∧ 0 ≤ R * W ∧ R * W ≤ 40 ∧ 0 ≤ D ∧ D ≤ 4 ∧ (D ≤ 0 ∨ 1 ≤ R) ∧ (1 ≤ R ∨ R * W = 0) := by omega
  have B102718 : mb (N) (R) (W) (D) ((va_up s0.1 6 ((s0.1 6) + 3)), s0.2.1, s0.2.2.1, s0.2.2.2) := ⟨p102714, p102715, p102716, p102717, h102711.2.2.2.2.1, h102711.2.2.2.2.2.1, h102711.2.2.2.2.2.2.1, h102711.2.2.2.2.2.2.2⟩
  refine wq_X7_rows B102718 (fun r_1 q102719 => ?_)
  replace q102719 : (r_1).toInt = R := q102719
  have e102720 := tq_addr li_3 (s0.1 6)
  try rw [Int.emod_eq_of_lt (show 0 ≤ (s0.1 6).toInt + 3 + 2147483648 by omega) (show (s0.1 6).toInt + 3 + 2147483648 < 4294967296 by omega)] at e102720
  have p102721 : 0 ≤ ((s0.1 6) + 3).toInt ∧ ((s0.1 6) + 3).toInt ≤ N := by omega
  refine wq_X7_readsNumber B102718 p102721 (fun r_3 u_4 q102722 q102723 q102724 q102725 q102726 q102727 => ?_)
  have := q102722.1
  have := q102722.2.1
  replace q102724 : (r_3).toInt = 0 ∨ (r_3).toInt = 1 := q102724
  replace q102725 : ((s0.1 6) + 3).toInt ≤ (u_4.1 6).toInt ∧ (u_4.1 6).toInt ≤ N := q102725
  replace q102726 : (r_3).toInt = 0 ∨ (((0 : Int32)).toInt ≤ (u_4.1 8).toInt ∧ (u_4.1 8).toInt ≤ (r_1 - 1).toInt) := q102726
  try simp only [li_0] at q102726
  have e102728 := tq_subr li_1 r_1
  try rw [Int.emod_eq_of_lt (show 0 ≤ (r_1).toInt - 1 + 2147483648 by omega) (show (r_1).toInt - 1 + 2147483648 < 4294967296 by omega)] at e102728
  refine ⟨fun c102729 => ?_, fun c102730 => ?_⟩
  · replace c102729 := q_neq c102729
    rw [li_0] at c102729
    refine wq_X7_wide q102722 (fun r_6 q102731 => ?_)
    have p102732 : 0 ≤ (u_4.1 6).toInt ∧ (u_4.1 6).toInt ≤ N := by omega
    have p102733 : 0 ≤ (r_6).toInt := by omega
    refine wq_X7_readsQuoted q102722 p102732 p102733 (fun r_8 u_9 q102734 q102735 q102736 q102737 q102738 q102739 => ?_)
    have := q102734.1
    have := q102734.2.1
    try simp only [li_0] at q102738
    refine ⟨fun c102740 => ?_, fun c102741 => ?_⟩
    · replace c102740 := q_neq c102740
      rw [li_0] at c102740
      have p102742 : 0 < D := by omega
      have p102743 : 0 ≤ (u_4.1 8).toInt ∧ (u_4.1 8).toInt < R := by omega
      have p102744 : 0 ≤ (u_9.1 10).toInt ∧ 0 ≤ (u_9.1 11).toInt ∧ (u_9.1 10).toInt + (u_9.1 11).toInt ≤ 400 := by omega
      refine wq_X7_wantsSigns q102734 p102742 p102743 p102744 (fun r_11 u_12 q102745 q102746 => ?_)
      have := q102745.1
      have := q102745.2.1
      have p102747 : 0 < D := by omega
      have p102748 : ie [] u_12.1 u_12.1 := (ie_refl _ _)
      have p102749 : 0 ≤ (u_4.1 8).toInt ∧ (u_4.1 8).toInt < R := by omega
      have p102750 : 0 ≤ (0 : Int32).toInt ∧ (0 : Int32).toInt ≤ W := by (have := li_0; omega)
      obtain ⟨f102751, g102752⟩ := fu_e 50
      have p102753 : W - (0 : Int32).toInt < (f102751 : Int) := by (have := li_0; omega)
      refine ⟨f102751, wq_X7_readsRow_L62 p102747 (fun t0 z1 z2 z3 q102754 q102755 q102756 q102757 => ?_) f102751 _ _ _ _ q102745 p102748 p102749 p102750 p102753⟩
      have := q102754.1
      have := q102754.2.1
      have p102758 : ie [1, 2, 6, 7, 8, 9, 10, 11, 12, 13] t0.1 s0.1 := (ie_tr q102755 (by decide) (ie_tr q102746 (by decide) (ie_tr q102735 (by decide) (ie_tr q102723 (by decide) (ie_up (ie_refl _ _) (by decide))))))
      have p102759 : (1 : Int32).toInt = 0 ∨ (1 : Int32).toInt = 1 := by (have := li_1; omega)
      have : (t0.1 6).toInt = (u_12.1 6).toInt := ie_i q102755 6 (by decide)
      have : (u_12.1 6).toInt = (u_9.1 6).toInt := ie_i q102746 6 (by decide)
      have p102760 : (s0.1 6).toInt ≤ (t0.1 6).toInt ∧ (t0.1 6).toInt ≤ N := by omega
      exact k _ _ q102754 p102758 p102759 p102760
    · replace c102741 := q_eq c102741
      rw [li_0] at c102741
      have p102761 : ie [1, 2, 6, 7, 8, 9, 10, 11, 12, 13] u_9.1 s0.1 := (ie_tr q102735 (by decide) (ie_tr q102723 (by decide) (ie_up (ie_refl _ _) (by decide))))
      have p102762 : (0 : Int32).toInt = 0 ∨ (0 : Int32).toInt = 1 := by (have := li_0; omega)
      have p102763 : (s0.1 6).toInt ≤ (u_9.1 6).toInt ∧ (u_9.1 6).toInt ≤ N := by omega
      exact k _ _ q102734 p102761 p102762 p102763
  · replace c102730 := q_eq c102730
    rw [li_0] at c102730
    have p102764 : ie [1, 2, 6, 7, 8, 9, 10, 11, 12, 13] u_4.1 s0.1 := (ie_tr q102723 (by decide) (ie_up (ie_refl _ _) (by decide)))
    have p102765 : (0 : Int32).toInt = 0 ∨ (0 : Int32).toInt = 1 := by (have := li_0; omega)
    have p102766 : (s0.1 6).toInt ≤ (u_4.1 6).toInt ∧ (u_4.1 6).toInt ≤ N := by omega
    exact k _ _ q102722 p102764 p102765 p102766
theorem wq_X7_readsLose {post : Int32 → Md → Prop} {s0 : Md} {N R W D : Int} (h102767 : mb (N) (R) (W) (D) s0) (h102768 : 0 ≤ (s0.1 6).toInt ∧ (s0.1 6).toInt + 4 ≤ N) (k : ∀ (r : Int32) (u : Md), mb (N) (R) (W) (D) u → ie [1, 2, 6, 7, 8, 9, 10, 11, 12, 13] u.1 s0.1 → (r).toInt = 0 ∨ (r).toInt = 1 → (s0.1 6).toInt ≤ (u.1 6).toInt ∧ (u.1 6).toInt ≤ N → (r).toInt = 0 ∨ (0 ≤ (u.1 12).toInt ∧ (u.1 12).toInt < R * W ∧ 0 ≤ (u.1 8).toInt ∧ (u.1 8).toInt ≤ 9) → post r u) : wp_X7_readsLose post s0 := by
  unfold wp_X7_readsLose
  have := h102767.1
  have := h102767.2.1
  have := h102767.2.2.1
  have := h102767.2.2.2.1
  have p102769 : (s0.1 5).toInt = N := by omega
  have p102770 : 0 ≤ (s0.1 0).toInt ∧ (s0.1 0).toInt ≤ 10 := by omega
  have p102771 : 0 ≤ N ∧ N ≤ 400 := by omega
  have p102772 : 0 ≤ R ∧ R ≤ 6 ∧ 0 ≤ W ∧ W ≤ 10 ∧ 0 ≤ R * W ∧ R * W ≤ 40 ∧ 0 ≤ D ∧ D ≤ 4 ∧ (D ≤ 0 ∨ 1 ≤ R) ∧ (1 ≤ R ∨ R * W = 0) := by omega
  have B102773 : mb (N) (R) (W) (D) ((va_up s0.1 6 ((s0.1 6) + 4)), s0.2.1, s0.2.2.1, s0.2.2.2) := ⟨p102769, p102770, p102771, p102772, h102767.2.2.2.2.1, h102767.2.2.2.2.2.1, h102767.2.2.2.2.2.2.1, h102767.2.2.2.2.2.2.2⟩
  refine wq_X7_cells B102773 (fun r_1 q102774 => ?_)
  replace q102774 : (r_1).toInt = R * W := q102774
  have e102775 := tq_addr li_4 (s0.1 6)
  try rw [Int.emod_eq_of_lt (show 0 ≤ (s0.1 6).toInt + 4 + 2147483648 by omega) (show (s0.1 6).toInt + 4 + 2147483648 < 4294967296 by omega)] at e102775
  have p102776 : 0 ≤ ((s0.1 6) + 4).toInt ∧ ((s0.1 6) + 4).toInt ≤ N := by omega
  refine wq_X7_readsNumber B102773 p102776 (fun r_3 u_4 q102777 q102778 q102779 q102780 q102781 q102782 => ?_)
  have := q102777.1
  have := q102777.2.1
  replace q102779 : (r_3).toInt = 0 ∨ (r_3).toInt = 1 := q102779
  replace q102780 : ((s0.1 6) + 4).toInt ≤ (u_4.1 6).toInt ∧ (u_4.1 6).toInt ≤ N := q102780
  replace q102781 : (r_3).toInt = 0 ∨ (((0 : Int32)).toInt ≤ (u_4.1 8).toInt ∧ (u_4.1 8).toInt ≤ (r_1 - 1).toInt) := q102781
  try simp only [li_0] at q102781
  have e102783 := tq_subr li_1 r_1
  try rw [Int.emod_eq_of_lt (show 0 ≤ (r_1).toInt - 1 + 2147483648 by omega) (show (r_1).toInt - 1 + 2147483648 < 4294967296 by omega)] at e102783
  refine ⟨fun c102784 => ?_, fun c102785 => ?_⟩
  · replace c102784 := q_neq c102784
    rw [li_0] at c102784
    have : (u_4.1 5).toInt = (s0.1 5).toInt := ie_i q102778 5 (by decide)
    have p102786 : (u_4.1 5).toInt = N := by omega
    have : (u_4.1 0).toInt = (s0.1 0).toInt := ie_i q102778 0 (by decide)
    have p102787 : 0 ≤ (u_4.1 0).toInt ∧ (u_4.1 0).toInt ≤ 10 := by omega
    have p102788 : 0 ≤ N ∧ N ≤ 400 := by omega
    have p102789 : 0 ≤ R ∧ R ≤ 6 ∧ 0 ≤ W ∧ W ≤ 10 ∧ 0 ≤ R * W ∧ R * W ≤ 40 ∧ 0 ≤ D ∧ D ≤ 4 ∧ (D ≤ 0 ∨ 1 ≤ R) ∧ (1 ≤ R ∨ R * W = 0) := by omega
    have B102790 : mb (N) (R) (W) (D) ((va_up u_4.1 12 (u_4.1 8)), u_4.2.1, u_4.2.2.1, u_4.2.2.2) := ⟨p102786, p102787, p102788, p102789, q102777.2.2.2.2.1, q102777.2.2.2.2.2.1, q102777.2.2.2.2.2.2.1, q102777.2.2.2.2.2.2.2⟩
    have p102791 : 0 ≤ (u_4.1 6).toInt ∧ (u_4.1 6).toInt ≤ N := by omega
    refine wq_X7_readsNumber B102790 p102791 (fun r_6 u_7 q102792 q102793 q102794 q102795 q102796 q102797 => ?_)
    have := q102792.1
    have := q102792.2.1
    replace q102794 : (r_6).toInt = 0 ∨ (r_6).toInt = 1 := q102794
    replace q102795 : (u_4.1 6).toInt ≤ (u_7.1 6).toInt ∧ (u_7.1 6).toInt ≤ N := q102795
    replace q102796 : (r_6).toInt = 0 ∨ (((0 : Int32)).toInt ≤ (u_7.1 8).toInt ∧ (u_7.1 8).toInt ≤ ((9 : Int32)).toInt) := q102796
    try simp only [li_0, li_9] at q102796
    refine ⟨(nb_b (by omega)), ?_⟩
    have p102798 : ie [1, 2, 6, 7, 8, 9, 10, 11, 12, 13] u_7.1 s0.1 := (ie_tr q102793 (by decide) (ie_up (ie_tr q102778 (by decide) (ie_up (ie_refl _ _) (by decide))) (by decide)))
    have p102799 : (r_6).toInt = 0 ∨ (r_6).toInt = 1 := by omega
    have p102800 : (s0.1 6).toInt ≤ (u_7.1 6).toInt ∧ (u_7.1 6).toInt ≤ N := by omega
    have : (u_7.1 12).toInt = (u_4.1 8).toInt := ie_i q102793 12 (by decide)
    have p102801 : (r_6).toInt = 0 ∨ (0 ≤ (u_7.1 12).toInt ∧ (u_7.1 12).toInt < R * W ∧ 0 ≤ (u_7.1 8).toInt ∧ (u_7.1 8).toInt ≤ 9) := by omega
    exact k _ _ q102792 p102798 p102799 p102800 p102801
  · replace c102785 := q_eq c102785
    rw [li_0] at c102785
    have p102802 : ie [1, 2, 6, 7, 8, 9, 10, 11, 12, 13] u_4.1 s0.1 := (ie_tr q102778 (by decide) (ie_up (ie_refl _ _) (by decide)))
    have p102803 : (0 : Int32).toInt = 0 ∨ (0 : Int32).toInt = 1 := by (have := li_0; omega)
    have p102804 : (s0.1 6).toInt ≤ (u_4.1 6).toInt ∧ (u_4.1 6).toInt ≤ N := by omega
    have : (u_4.1 12).toInt = (s0.1 12).toInt := ie_i q102778 12 (by decide)
    have p102805 : (0 : Int32).toInt = 0 ∨ (0 ≤ (u_4.1 12).toInt ∧ (u_4.1 12).toInt < R * W ∧ 0 ≤ (u_4.1 8).toInt ∧ (u_4.1 8).toInt ≤ 9) := by (have := li_0; omega)
    exact k _ _ q102777 p102802 p102803 p102804 p102805
theorem wq_X7_isDone {post : Int32 → Md → Prop} {s0 : Md} {x1 : Int32} {N R W D : Int} (h102806 : mb (N) (R) (W) (D) s0) (k : ∀ (r : Int32) (u : Md), mb (N) (R) (W) (D) u → ie [13] u.1 s0.1 → (r).toInt = 0 ∨ (r).toInt = 1 → post r u) : wp_X7_isDone post s0 x1 := by
  unfold wp_X7_isDone
  have := h102806.1
  have := h102806.2.1
  have := h102806.2.2.1
  have := h102806.2.2.2.1
  refine ⟨fun c102807 => ?_, fun c102808 => ?_⟩
  · replace c102807 := q_eq c102807
    rw [li_0] at c102807
    have p102809 : ie [13] s0.1 s0.1 := (ie_refl _ _)
    have p102810 : (0 : Int32).toInt = 0 ∨ (0 : Int32).toInt = 1 := by (have := li_0; omega)
    exact k _ _ h102806 p102809 p102810
  · replace c102808 := q_neq c102808
    rw [li_0] at c102808
    refine ⟨fun c102811 => ?_, fun c102812 => ?_⟩
    · replace c102811 := q_neq c102811
      rw [li_200] at c102811
      have p102813 : (s0.1 5).toInt = N := by omega
      have p102814 : 0 ≤ (s0.1 0).toInt ∧ (s0.1 0).toInt ≤ 10 := by omega
      have p102815 : 0 ≤ N ∧ N ≤ 400 := by omega
      have p102816 : 0 ≤ R ∧ R ≤ 6 ∧ 0 ≤ W ∧ W ≤ 10 ∧ 0 ≤ R * W ∧ R * W ≤ 40 ∧ 0 ≤ D ∧ D ≤ 4 ∧ (D ≤ 0 ∨ 1 ≤ R) ∧ (1 ≤ R ∨ R * W = 0) := by omega
      have B102817 : mb (N) (R) (W) (D) ((va_up s0.1 13 ((s0.1 13) + 1)), s0.2.1, s0.2.2.1, s0.2.2.2) := ⟨p102813, p102814, p102815, p102816, h102806.2.2.2.2.1, h102806.2.2.2.2.2.1, h102806.2.2.2.2.2.2.1, h102806.2.2.2.2.2.2.2⟩
      have p102818 : ie [13] (va_up s0.1 13 ((s0.1 13) + 1)) s0.1 := (ie_up (ie_refl _ _) (by decide))
      have p102819 : (1 : Int32).toInt = 0 ∨ (1 : Int32).toInt = 1 := by (have := li_1; omega)
      exact k _ _ B102817 p102818 p102819
    · replace c102812 := q_eq c102812
      rw [li_200] at c102812
      have p102820 : ie [13] s0.1 s0.1 := (ie_refl _ _)
      have p102821 : (0 : Int32).toInt = 0 ∨ (0 : Int32).toInt = 1 := by (have := li_0; omega)
      exact k _ _ h102806 p102820 p102821
theorem wq_X7_goesRow {post : Int32 → Md → Prop} {s0 : Md} {x1 : Int32} {N R W D : Int} (h102822 : mb (N) (R) (W) (D) s0) (h102823 : 0 < D) (h102824 : 0 ≤ (s0.1 6).toInt ∧ (s0.1 6).toInt + 3 ≤ N) (k : ∀ (r : Int32) (u : Md), mb (N) (R) (W) (D) u → ie [1, 2, 6, 7, 8, 9, 10, 11, 12, 13] u.1 s0.1 → (r).toInt = 0 ∨ (r).toInt = 1 → (s0.1 6).toInt ≤ (u.1 6).toInt ∧ (u.1 6).toInt ≤ N → post r u) : wp_X7_goesRow post s0 x1 := by
  unfold wp_X7_goesRow
  have := h102822.1
  have := h102822.2.1
  have := h102822.2.2.1
  have := h102822.2.2.2.1
  have p102825 : (s0.1 5).toInt = N := by omega
  have p102826 : 0 ≤ (s0.1 0).toInt ∧ (s0.1 0).toInt ≤ 10 := by omega
  have p102827 : 0 ≤ N ∧ N ≤ 400 := by omega
  have p102828 : 0 ≤ R ∧ R ≤ 6 ∧ 0 ≤ W ∧ W ≤ 10 ∧ 0 ≤ R * W ∧ R * W ≤ 40 ∧ 0 ≤ D ∧ D ≤ 4 ∧ (D ≤ 0 ∨ 1 ≤ R) ∧ (1 ≤ R ∨ R * W = 0) := by omega
  have B102829 : mb (N) (R) (W) (D) ((va_up s0.1 6 ((s0.1 6) + 3)), s0.2.1, s0.2.2.1, s0.2.2.2) := ⟨p102825, p102826, p102827, p102828, h102822.2.2.2.2.1, h102822.2.2.2.2.2.1, h102822.2.2.2.2.2.2.1, h102822.2.2.2.2.2.2.2⟩
  refine wq_X7_rows B102829 (fun r_1 q102830 => ?_)
  replace q102830 : (r_1).toInt = R := q102830
  have e102831 := tq_addr li_3 (s0.1 6)
  try rw [Int.emod_eq_of_lt (show 0 ≤ (s0.1 6).toInt + 3 + 2147483648 by omega) (show (s0.1 6).toInt + 3 + 2147483648 < 4294967296 by omega)] at e102831
  have p102832 : 0 ≤ ((s0.1 6) + 3).toInt ∧ ((s0.1 6) + 3).toInt ≤ N := by omega
  refine wq_X7_readsNumber B102829 p102832 (fun r_3 u_4 q102833 q102834 q102835 q102836 q102837 q102838 => ?_)
  have := q102833.1
  have := q102833.2.1
  replace q102835 : (r_3).toInt = 0 ∨ (r_3).toInt = 1 := q102835
  replace q102836 : ((s0.1 6) + 3).toInt ≤ (u_4.1 6).toInt ∧ (u_4.1 6).toInt ≤ N := q102836
  replace q102837 : (r_3).toInt = 0 ∨ (((0 : Int32)).toInt ≤ (u_4.1 8).toInt ∧ (u_4.1 8).toInt ≤ (r_1 - 1).toInt) := q102837
  try simp only [li_0] at q102837
  have e102839 := tq_subr li_1 r_1
  try rw [Int.emod_eq_of_lt (show 0 ≤ (r_1).toInt - 1 + 2147483648 by omega) (show (r_1).toInt - 1 + 2147483648 < 4294967296 by omega)] at e102839
  refine ⟨fun c102840 => ?_, fun c102841 => ?_⟩
  · replace c102840 := q_neq c102840
    rw [li_0] at c102840
    refine wq_X7_wide q102833 (fun r_6 q102842 => ?_)
    have p102843 : 0 ≤ (u_4.1 6).toInt ∧ (u_4.1 6).toInt ≤ N := by omega
    have p102844 : 0 ≤ (r_6).toInt := by omega
    refine wq_X7_readsQuoted q102833 p102843 p102844 (fun r_8 u_9 q102845 q102846 q102847 q102848 q102849 q102850 => ?_)
    have := q102845.1
    have := q102845.2.1
    try simp only [li_0] at q102849
    refine ⟨fun c102851 => ?_, fun c102852 => ?_⟩
    · replace c102851 := q_neq c102851
      rw [li_0] at c102851
      refine wq_X7_isDone q102845 (fun r_11 u_12 q102853 q102854 q102855 => ?_)
      have := q102853.1
      have := q102853.2.1
      refine ⟨fun c102856 => ?_, fun c102857 => ?_⟩
      · replace c102856 := q_eq c102856
        rw [li_0] at c102856
        have p102858 : ie [1, 2, 6, 7, 8, 9, 10, 11, 12, 13] u_12.1 s0.1 := (ie_tr q102854 (by decide) (ie_tr q102846 (by decide) (ie_tr q102834 (by decide) (ie_up (ie_refl _ _) (by decide)))))
        have p102859 : (1 : Int32).toInt = 0 ∨ (1 : Int32).toInt = 1 := by (have := li_1; omega)
        have : (u_12.1 6).toInt = (u_9.1 6).toInt := ie_i q102854 6 (by decide)
        have p102860 : (s0.1 6).toInt ≤ (u_12.1 6).toInt ∧ (u_12.1 6).toInt ≤ N := by omega
        exact k _ _ q102853 p102858 p102859 p102860
      · replace c102857 := q_neq c102857
        rw [li_0] at c102857
        have p102861 : 0 < D := by omega
        have p102862 : 0 ≤ (u_4.1 8).toInt ∧ (u_4.1 8).toInt < R := by omega
        have : (u_12.1 10).toInt = (u_9.1 10).toInt := ie_i q102854 10 (by decide)
        have : (u_12.1 11).toInt = (u_9.1 11).toInt := ie_i q102854 11 (by decide)
        have p102863 : 0 ≤ (u_12.1 10).toInt ∧ 0 ≤ (u_12.1 11).toInt ∧ (u_12.1 10).toInt + (u_12.1 11).toInt ≤ 400 := by omega
        refine wq_X7_wantsSigns q102853 p102861 p102862 p102863 (fun r_14 u_15 q102864 q102865 => ?_)
        have := q102864.1
        have := q102864.2.1
        have p102866 : ie [1, 2, 6, 7, 8, 9, 10, 11, 12, 13] u_15.1 s0.1 := (ie_tr q102865 (by decide) (ie_tr q102854 (by decide) (ie_tr q102846 (by decide) (ie_tr q102834 (by decide) (ie_up (ie_refl _ _) (by decide))))))
        have p102867 : (1 : Int32).toInt = 0 ∨ (1 : Int32).toInt = 1 := by (have := li_1; omega)
        have : (u_15.1 6).toInt = (u_12.1 6).toInt := ie_i q102865 6 (by decide)
        have : (u_12.1 6).toInt = (u_9.1 6).toInt := ie_i q102854 6 (by decide)
        have p102868 : (s0.1 6).toInt ≤ (u_15.1 6).toInt ∧ (u_15.1 6).toInt ≤ N := by omega
        exact k _ _ q102864 p102866 p102867 p102868
    · replace c102852 := q_eq c102852
      rw [li_0] at c102852
      have p102869 : ie [1, 2, 6, 7, 8, 9, 10, 11, 12, 13] u_9.1 s0.1 := (ie_tr q102846 (by decide) (ie_tr q102834 (by decide) (ie_up (ie_refl _ _) (by decide))))
      have p102870 : (0 : Int32).toInt = 0 ∨ (0 : Int32).toInt = 1 := by (have := li_0; omega)
      have p102871 : (s0.1 6).toInt ≤ (u_9.1 6).toInt ∧ (u_9.1 6).toInt ≤ N := by omega
      exact k _ _ q102845 p102869 p102870 p102871
  · replace c102841 := q_eq c102841
    rw [li_0] at c102841
    have p102872 : ie [1, 2, 6, 7, 8, 9, 10, 11, 12, 13] u_4.1 s0.1 := (ie_tr q102834 (by decide) (ie_up (ie_refl _ _) (by decide)))
    have p102873 : (0 : Int32).toInt = 0 ∨ (0 : Int32).toInt = 1 := by (have := li_0; omega)
    have p102874 : (s0.1 6).toInt ≤ (u_4.1 6).toInt ∧ (u_4.1 6).toInt ≤ N := by omega
    exact k _ _ q102833 p102872 p102873 p102874
theorem wq_X7_goesScroll {post : Int32 → Md → Prop} {s0 : Md} {x1 : Int32} {N R W D : Int} (h102875 : mb (N) (R) (W) (D) s0) (h102876 : 0 < D) (h102877 : 0 ≤ (s0.1 6).toInt ∧ (s0.1 6).toInt + 6 ≤ N) (k : ∀ (r : Int32) (u : Md), mb (N) (R) (W) (D) u → ie [1, 2, 6, 7, 8, 9, 10, 11, 12, 13] u.1 s0.1 → (r).toInt = 0 ∨ (r).toInt = 1 → (s0.1 6).toInt ≤ (u.1 6).toInt ∧ (u.1 6).toInt ≤ N → post r u) : wp_X7_goesScroll post s0 x1 := by
  unfold wp_X7_goesScroll
  have := h102875.1
  have := h102875.2.1
  have := h102875.2.2.1
  have := h102875.2.2.2.1
  have p102878 : (s0.1 5).toInt = N := by omega
  have p102879 : 0 ≤ (s0.1 0).toInt ∧ (s0.1 0).toInt ≤ 10 := by omega
  have p102880 : 0 ≤ N ∧ N ≤ 400 := by omega
  have p102881 : 0 ≤ R ∧ R ≤ 6 ∧ 0 ≤ W ∧ W ≤ 10 ∧ 0 ≤ R * W ∧ R * W ≤ 40 ∧ 0 ≤ D ∧ D ≤ 4 ∧ (D ≤ 0 ∨ 1 ≤ R) ∧ (1 ≤ R ∨ R * W = 0) := by omega
  have B102882 : mb (N) (R) (W) (D) ((va_up s0.1 6 ((s0.1 6) + 6)), s0.2.1, s0.2.2.1, s0.2.2.2) := ⟨p102878, p102879, p102880, p102881, h102875.2.2.2.2.1, h102875.2.2.2.2.2.1, h102875.2.2.2.2.2.2.1, h102875.2.2.2.2.2.2.2⟩
  refine wq_X7_wide B102882 (fun r_1 q102883 => ?_)
  replace q102883 : (r_1).toInt = W := q102883
  have e102884 := tq_addr li_6 (s0.1 6)
  try rw [Int.emod_eq_of_lt (show 0 ≤ (s0.1 6).toInt + 6 + 2147483648 by omega) (show (s0.1 6).toInt + 6 + 2147483648 < 4294967296 by omega)] at e102884
  have p102885 : 0 ≤ ((s0.1 6) + 6).toInt ∧ ((s0.1 6) + 6).toInt ≤ N := by omega
  have p102886 : 0 ≤ (r_1).toInt := by omega
  refine wq_X7_readsQuoted B102882 p102885 p102886 (fun r_3 u_4 q102887 q102888 q102889 q102890 q102891 q102892 => ?_)
  have := q102887.1
  have := q102887.2.1
  replace q102889 : (r_3).toInt = 0 ∨ (r_3).toInt = 1 := q102889
  replace q102890 : ((s0.1 6) + 6).toInt ≤ (u_4.1 6).toInt ∧ (u_4.1 6).toInt ≤ N := q102890
  replace q102891 : (r_3).toInt = 0 ∨ (0 ≤ (u_4.1 10).toInt ∧ 0 ≤ (u_4.1 11).toInt ∧ (u_4.1 10).toInt + (u_4.1 11).toInt ≤ N ∧ ((0 : Int32)).toInt ≤ (u_4.1 11).toInt ∧ (u_4.1 11).toInt ≤ (r_1).toInt) := q102891
  try simp only [li_0] at q102891
  refine ⟨fun c102893 => ?_, fun c102894 => ?_⟩
  · replace c102893 := q_neq c102893
    rw [li_0] at c102893
    refine wq_X7_isDone q102887 (fun r_6 u_7 q102895 q102896 q102897 => ?_)
    have := q102895.1
    have := q102895.2.1
    refine ⟨fun c102898 => ?_, fun c102899 => ?_⟩
    · replace c102898 := q_eq c102898
      rw [li_0] at c102898
      have p102900 : ie [1, 2, 6, 7, 8, 9, 10, 11, 12, 13] u_7.1 s0.1 := (ie_tr q102896 (by decide) (ie_tr q102888 (by decide) (ie_up (ie_refl _ _) (by decide))))
      have p102901 : (1 : Int32).toInt = 0 ∨ (1 : Int32).toInt = 1 := by (have := li_1; omega)
      have : (u_7.1 6).toInt = (u_4.1 6).toInt := ie_i q102896 6 (by decide)
      have p102902 : (s0.1 6).toInt ≤ (u_7.1 6).toInt ∧ (u_7.1 6).toInt ≤ N := by omega
      exact k _ _ q102895 p102900 p102901 p102902
    · replace c102899 := q_neq c102899
      rw [li_0] at c102899
      have p102903 : 0 < D := by omega
      have : (u_7.1 10).toInt = (u_4.1 10).toInt := ie_i q102896 10 (by decide)
      have : (u_7.1 11).toInt = (u_4.1 11).toInt := ie_i q102896 11 (by decide)
      have p102904 : 0 ≤ (u_7.1 10).toInt ∧ 0 ≤ (u_7.1 11).toInt ∧ (u_7.1 10).toInt + (u_7.1 11).toInt ≤ 400 := by omega
      refine wq_X7_scrolls q102895 p102903 p102904 (fun r_9 u_10 q102905 q102906 => ?_)
      have := q102905.1
      have := q102905.2.1
      have p102907 : ie [1, 2, 6, 7, 8, 9, 10, 11, 12, 13] u_10.1 s0.1 := (ie_tr q102906 (by decide) (ie_tr q102896 (by decide) (ie_tr q102888 (by decide) (ie_up (ie_refl _ _) (by decide)))))
      have p102908 : (1 : Int32).toInt = 0 ∨ (1 : Int32).toInt = 1 := by (have := li_1; omega)
      have : (u_10.1 6).toInt = (u_7.1 6).toInt := ie_i q102906 6 (by decide)
      have : (u_7.1 6).toInt = (u_4.1 6).toInt := ie_i q102896 6 (by decide)
      have p102909 : (s0.1 6).toInt ≤ (u_10.1 6).toInt ∧ (u_10.1 6).toInt ≤ N := by omega
      exact k _ _ q102905 p102907 p102908 p102909
  · replace c102894 := q_eq c102894
    rw [li_0] at c102894
    have p102910 : ie [1, 2, 6, 7, 8, 9, 10, 11, 12, 13] u_4.1 s0.1 := (ie_tr q102888 (by decide) (ie_up (ie_refl _ _) (by decide)))
    have p102911 : (0 : Int32).toInt = 0 ∨ (0 : Int32).toInt = 1 := by (have := li_0; omega)
    have p102912 : (s0.1 6).toInt ≤ (u_4.1 6).toInt ∧ (u_4.1 6).toInt ≤ N := by omega
    exact k _ _ q102887 p102910 p102911 p102912
theorem wq_X7_goesHome_L38 {post : Int32 → Md → Prop} {e69 : Md → Int32 → Int32 → Prop} {D N R W : Int} {A : Nat → Int32} (h102913 : 0 < D) (ke69 : ∀ (t0 : Md) (z1 : Int32) (z2 : Int32), mb (N) (R) (W) (D) t0 → ie [] t0.1 A → 0 ≤ (t0.1 8).toInt ∧ (t0.1 8).toInt < R → 0 ≤ (z2).toInt ∧ (z2).toInt ≤ W → e69 t0 z1 z2) : ∀ (n : Nat) (t0 : Md) (z1 : Int32) (z2 : Int32), mb (N) (R) (W) (D) t0 → ie [] t0.1 A → 0 ≤ (t0.1 8).toInt ∧ (t0.1 8).toInt < R → 0 ≤ (z2).toInt ∧ (z2).toInt ≤ W → W - (z2).toInt < (n : Int) → wp_X7_goesHome_L38 post e69 n t0 z1 z2 := by
  intro n
  induction n with
  | zero =>
    intro t0 z1 z2 i102914 i102915 i102916 i102917 i102918
    have := i102914.1
    have := i102914.2.1
    have := i102914.2.2.1
    have := i102914.2.2.2.1
    have : (t0.1 8).toInt = (A 8).toInt := ie_i i102915 8 (by decide)
    exfalso
    omega
  | succ n ih =>
    intro t0 z1 z2 i102914 i102915 i102916 i102917 i102918
    unfold wp_X7_goesHome_L38
    have := i102914.1
    have := i102914.2.1
    have := i102914.2.2.1
    have := i102914.2.2.2.1
    have : (t0.1 8).toInt = (A 8).toInt := ie_i i102915 8 (by decide)
    refine wq_X7_wide i102914 (fun r_9 q102919 => ?_)
    refine ⟨fun c102920 => ?_, fun c102921 => ?_⟩
    · replace c102920 := q_le c102920
      have p102922 : ie [] t0.1 A := (ie_tr i102915 (by decide) (ie_refl _ _))
      have p102923 : 0 ≤ (t0.1 8).toInt ∧ (t0.1 8).toInt < R := by omega
      have p102924 : 0 ≤ (z2).toInt ∧ (z2).toInt ≤ W := by omega
      exact ke69 _ _ _ i102914 p102922 p102923 p102924
    · replace c102921 := q_nle c102921
      refine wq_X7_wide i102914 (fun r_12 q102925 => ?_)
      have := rw_r (a := (t0.1 8)) (b := r_12) (R := R) (W := W) (by omega) (by omega) (by omega)
      have e102926 := tq_add (r_12 * (t0.1 8)) z2
      try rw [Int.emod_eq_of_lt (show 0 ≤ (r_12 * (t0.1 8)).toInt + (z2).toInt + 2147483648 by omega) (show (r_12 * (t0.1 8)).toInt + (z2).toInt + 2147483648 < 4294967296 by omega)] at e102926
      have p102927 : 0 ≤ ((r_12 * (t0.1 8)) + z2).toInt ∧ ((r_12 * (t0.1 8)) + z2).toInt < 40 := by omega
      have p102928 : 0 < D := by omega
      try have := rw_k i102914.2.2.2.2.1 (show 0 ≤ (((r_12 * (t0.1 8)) + z2)).toInt ∧ (((r_12 * (t0.1 8)) + z2)).toInt < 40 by omega)
      have p102929 : 0 ≤ ((0 : Int32)).toInt ∧ ((0 : Int32)).toInt ≤ 39 ∧ ((0 : Int32)).toInt < fl_c ((t0.2.2.1 0)) ((r_12 * (t0.1 8)) + z2) := by (have := li_0; omega)
      refine wq_X7_wantsFlap i102914 p102927 p102928 p102929 (fun u_15 q102930 q102931 => ?_)
      have := q102930.1
      have := q102930.2.1
      have p102932 : ie [] u_15.1 A := (ie_tr q102931 (by decide) (ie_tr i102915 (by decide) (ie_refl _ _)))
      have : (u_15.1 8).toInt = (t0.1 8).toInt := ie_i q102931 8 (by decide)
      have p102933 : 0 ≤ (u_15.1 8).toInt ∧ (u_15.1 8).toInt < R := by omega
      have e102934 := tq_addr li_1 z2
      try rw [Int.emod_eq_of_lt (show 0 ≤ (z2).toInt + 1 + 2147483648 by omega) (show (z2).toInt + 1 + 2147483648 < 4294967296 by omega)] at e102934
      have p102935 : 0 ≤ (z2 + 1).toInt ∧ (z2 + 1).toInt ≤ W := by omega
      have p102936 : W - (z2 + 1).toInt < ((n : Nat) : Int) := by (omega)
      exact ih _ _ _ q102930 p102932 p102933 p102935 p102936
theorem wq_X7_goesHome {post : Int32 → Md → Prop} {s0 : Md} {x1 : Int32} {N R W D : Int} (h102937 : mb (N) (R) (W) (D) s0) (h102938 : 0 < D) (h102939 : 0 ≤ (s0.1 6).toInt ∧ (s0.1 6).toInt + 4 ≤ N) (k : ∀ (r : Int32) (u : Md), mb (N) (R) (W) (D) u → ie [1, 2, 6, 7, 8, 9, 10, 11, 12, 13] u.1 s0.1 → (r).toInt = 0 ∨ (r).toInt = 1 → (s0.1 6).toInt ≤ (u.1 6).toInt ∧ (u.1 6).toInt ≤ N → post r u) : wp_X7_goesHome post s0 x1 := by
  unfold wp_X7_goesHome
  have := h102937.1
  have := h102937.2.1
  have := h102937.2.2.1
  have := h102937.2.2.2.1
  have p102940 : (s0.1 5).toInt = N := by omega
  have p102941 : 0 ≤ (s0.1 0).toInt ∧ (s0.1 0).toInt ≤ 10 := by omega
  have p102942 : 0 ≤ N ∧ N ≤ 400 := by omega
  have p102943 : 0 ≤ R ∧ R ≤ 6 ∧ 0 ≤ W ∧ W ≤ 10 ∧ 0 ≤ R * W ∧ R * W ≤ 40 ∧ 0 ≤ D ∧ D ≤ 4 ∧ (D ≤ 0 ∨ 1 ≤ R) ∧ (1 ≤ R ∨ R * W = 0) := by omega
  have B102944 : mb (N) (R) (W) (D) ((va_up s0.1 6 ((s0.1 6) + 4)), s0.2.1, s0.2.2.1, s0.2.2.2) := ⟨p102940, p102941, p102942, p102943, h102937.2.2.2.2.1, h102937.2.2.2.2.2.1, h102937.2.2.2.2.2.2.1, h102937.2.2.2.2.2.2.2⟩
  refine wq_X7_rows B102944 (fun r_1 q102945 => ?_)
  replace q102945 : (r_1).toInt = R := q102945
  have e102946 := tq_addr li_4 (s0.1 6)
  try rw [Int.emod_eq_of_lt (show 0 ≤ (s0.1 6).toInt + 4 + 2147483648 by omega) (show (s0.1 6).toInt + 4 + 2147483648 < 4294967296 by omega)] at e102946
  have p102947 : 0 ≤ ((s0.1 6) + 4).toInt ∧ ((s0.1 6) + 4).toInt ≤ N := by omega
  refine wq_X7_readsNumber B102944 p102947 (fun r_3 u_4 q102948 q102949 q102950 q102951 q102952 q102953 => ?_)
  have := q102948.1
  have := q102948.2.1
  replace q102950 : (r_3).toInt = 0 ∨ (r_3).toInt = 1 := q102950
  replace q102951 : ((s0.1 6) + 4).toInt ≤ (u_4.1 6).toInt ∧ (u_4.1 6).toInt ≤ N := q102951
  replace q102952 : (r_3).toInt = 0 ∨ (((0 : Int32)).toInt ≤ (u_4.1 8).toInt ∧ (u_4.1 8).toInt ≤ (r_1 - 1).toInt) := q102952
  try simp only [li_0] at q102952
  have e102954 := tq_subr li_1 r_1
  try rw [Int.emod_eq_of_lt (show 0 ≤ (r_1).toInt - 1 + 2147483648 by omega) (show (r_1).toInt - 1 + 2147483648 < 4294967296 by omega)] at e102954
  refine ⟨fun c102955 => ?_, fun c102956 => ?_⟩
  · replace c102955 := q_neq c102955
    rw [li_0] at c102955
    refine wq_X7_isDone q102948 (fun r_6 u_7 q102957 q102958 q102959 => ?_)
    have := q102957.1
    have := q102957.2.1
    refine ⟨fun c102960 => ?_, fun c102961 => ?_⟩
    · replace c102960 := q_neq c102960
      rw [li_0] at c102960
      have p102962 : 0 < D := by omega
      have p102963 : ie [] u_7.1 u_7.1 := (ie_refl _ _)
      have : (u_7.1 8).toInt = (u_4.1 8).toInt := ie_i q102958 8 (by decide)
      have p102964 : 0 ≤ (u_7.1 8).toInt ∧ (u_7.1 8).toInt < R := by omega
      have p102965 : 0 ≤ (0 : Int32).toInt ∧ (0 : Int32).toInt ≤ W := by (have := li_0; omega)
      obtain ⟨f102966, g102967⟩ := fu_e 50
      have p102968 : W - (0 : Int32).toInt < (f102966 : Int) := by (have := li_0; omega)
      refine ⟨f102966, wq_X7_goesHome_L38 p102962 (fun t0 z1 z2 q102969 q102970 q102971 q102972 => ?_) f102966 _ _ _ q102957 p102963 p102964 p102965 p102968⟩
      have := q102969.1
      have := q102969.2.1
      have : (t0.1 8).toInt = (u_7.1 8).toInt := ie_i q102970 8 (by decide)
      have p102973 : ie [1, 2, 6, 7, 8, 9, 10, 11, 12, 13] t0.1 s0.1 := (ie_tr q102970 (by decide) (ie_tr q102958 (by decide) (ie_tr q102949 (by decide) (ie_up (ie_refl _ _) (by decide)))))
      have p102974 : (1 : Int32).toInt = 0 ∨ (1 : Int32).toInt = 1 := by (have := li_1; omega)
      have : (t0.1 6).toInt = (u_7.1 6).toInt := ie_i q102970 6 (by decide)
      have : (u_7.1 6).toInt = (u_4.1 6).toInt := ie_i q102958 6 (by decide)
      have p102975 : (s0.1 6).toInt ≤ (t0.1 6).toInt ∧ (t0.1 6).toInt ≤ N := by omega
      exact k _ _ q102969 p102973 p102974 p102975
    · replace c102961 := q_eq c102961
      rw [li_0] at c102961
      have p102976 : ie [1, 2, 6, 7, 8, 9, 10, 11, 12, 13] u_7.1 s0.1 := (ie_tr q102958 (by decide) (ie_tr q102949 (by decide) (ie_up (ie_refl _ _) (by decide))))
      have p102977 : (1 : Int32).toInt = 0 ∨ (1 : Int32).toInt = 1 := by (have := li_1; omega)
      have : (u_7.1 6).toInt = (u_4.1 6).toInt := ie_i q102958 6 (by decide)
      have p102978 : (s0.1 6).toInt ≤ (u_7.1 6).toInt ∧ (u_7.1 6).toInt ≤ N := by omega
      exact k _ _ q102957 p102976 p102977 p102978
  · replace c102956 := q_eq c102956
    rw [li_0] at c102956
    have p102979 : ie [1, 2, 6, 7, 8, 9, 10, 11, 12, 13] u_4.1 s0.1 := (ie_tr q102949 (by decide) (ie_up (ie_refl _ _) (by decide)))
    have p102980 : (0 : Int32).toInt = 0 ∨ (0 : Int32).toInt = 1 := by (have := li_0; omega)
    have p102981 : (s0.1 6).toInt ≤ (u_4.1 6).toInt ∧ (u_4.1 6).toInt ≤ N := by omega
    exact k _ _ q102948 p102979 p102980 p102981
theorem wq_X7_goesWait_L34 {post : Int32 → Md → Prop} {e53 : Md → Int32 → Int32 → Prop} {D N R W : Int} {A : Nat → Int32} (h102982 : 0 < D) (ke53 : ∀ (t0 : Md) (z1 : Int32) (z2 : Int32), mb (N) (R) (W) (D) t0 → ie [1, 2] t0.1 A → 0 ≤ (z2).toInt ∧ (z2).toInt ≤ (t0.1 8).toInt ∧ (t0.1 8).toInt ≤ 99 → e53 t0 z1 z2) : ∀ (n : Nat) (t0 : Md) (z1 : Int32) (z2 : Int32), mb (N) (R) (W) (D) t0 → ie [1, 2] t0.1 A → 0 ≤ (z2).toInt ∧ (z2).toInt ≤ (t0.1 8).toInt ∧ (t0.1 8).toInt ≤ 99 → (t0.1 8).toInt - (z2).toInt < (n : Int) → wp_X7_goesWait_L34 post e53 n t0 z1 z2 := by
  intro n
  induction n with
  | zero =>
    intro t0 z1 z2 i102983 i102984 i102985 i102986
    have := i102983.1
    have := i102983.2.1
    have := i102983.2.2.1
    have := i102983.2.2.2.1
    have : (t0.1 8).toInt = (A 8).toInt := ie_i i102984 8 (by decide)
    exfalso
    omega
  | succ n ih =>
    intro t0 z1 z2 i102983 i102984 i102985 i102986
    unfold wp_X7_goesWait_L34
    have := i102983.1
    have := i102983.2.1
    have := i102983.2.2.1
    have := i102983.2.2.2.1
    have : (t0.1 8).toInt = (A 8).toInt := ie_i i102984 8 (by decide)
    refine ⟨fun c102987 => ?_, fun c102988 => ?_⟩
    · replace c102987 := q_le c102987
      have p102989 : ie [1, 2] t0.1 A := (ie_tr i102984 (by decide) (ie_refl _ _))
      have p102990 : 0 ≤ (z2).toInt ∧ (z2).toInt ≤ (t0.1 8).toInt ∧ (t0.1 8).toInt ≤ 99 := by omega
      exact ke53 _ _ _ i102983 p102989 p102990
    · replace c102988 := q_nle c102988
      have p102991 : 0 < D := by omega
      refine wq_X7_ticks i102983 p102991 (fun r_8 u_9 q102992 q102993 q102994 q102995 => ?_)
      have := q102992.1
      have := q102992.2.1
      have p102996 : ie [1, 2] u_9.1 A := (ie_tr q102993 (by decide) (ie_tr i102984 (by decide) (ie_refl _ _)))
      have e102997 := tq_addr li_1 z2
      try rw [Int.emod_eq_of_lt (show 0 ≤ (z2).toInt + 1 + 2147483648 by omega) (show (z2).toInt + 1 + 2147483648 < 4294967296 by omega)] at e102997
      have : (u_9.1 8).toInt = (t0.1 8).toInt := ie_i q102993 8 (by decide)
      have p102998 : 0 ≤ (z2 + 1).toInt ∧ (z2 + 1).toInt ≤ (u_9.1 8).toInt ∧ (u_9.1 8).toInt ≤ 99 := by omega
      have p102999 : (u_9.1 8).toInt - (z2 + 1).toInt < ((n : Nat) : Int) := by (omega)
      exact ih _ _ _ q102992 p102996 p102998 p102999
