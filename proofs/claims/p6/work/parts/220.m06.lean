theorem wq_X0_costOf_L6 {s0 : Bd} {s1 : Tp} {post : Int32 → Prop} {e72 : Int32 → Int32 → Int32 → Int32 → Int32 → Int32 → Prop} {R W N : Int} (h757 : bi (R) (W) s0) (h758 : tz (N) s1) (ke72 : ∀ (z1 : Int32) (z2 : Int32) (z4 : Int32) (z5 : Int32) (z6 : Int32) (z7 : Int32), 0 ≤ (z1).toInt ∧ (z1).toInt < R → 0 ≤ (z7).toInt ∧ (z7).toInt ≤ W → e72 z1 z2 z4 z5 z6 z7) : ∀ (n : Nat) (z1 : Int32) (z2 : Int32) (z4 : Int32) (z5 : Int32) (z6 : Int32) (z7 : Int32), 0 ≤ (z1).toInt ∧ (z1).toInt < R → 0 ≤ (z7).toInt ∧ (z7).toInt ≤ W → W - (z7).toInt < (n : Int) → wp_X0_costOf_L6 s0 s1 post e72 n z1 z2 z4 z5 z6 z7 := by
  have := h757.1
  have := h757.2.1
  have := h757.2.2.1
  have := h757.2.2.2.1
  have := h757.2.2.2.2.2.2.2.2.2
  have := h758.1
  have := h758.2
  intro n
  induction n with
  | zero =>
    intro z1 z2 z4 z5 z6 z7 i759 i760 i761
    exfalso
    omega
  | succ n ih =>
    intro z1 z2 z4 z5 z6 z7 i759 i760 i761
    unfold wp_X0_costOf_L6
    refine ⟨fun c762 => ?_, fun c763 => ?_⟩
    · replace c762 := q_le c762
      have p764 : 0 ≤ (z1).toInt ∧ (z1).toInt < R := by omega
      have p765 : 0 ≤ (z7).toInt ∧ (z7).toInt ≤ W := by omega
      exact ke72 _ _ _ _ _ _ p764 p765
    · replace c763 := q_nle c763
      have := rw_l (a := z1) (b := (s0.1 1)) (R := R) (W := W) (by omega) (by omega) (by omega)
      have e766 := tq_add (z1 * (s0.1 1)) z7
      try rw [Int.emod_eq_of_lt (show 0 ≤ (z1 * (s0.1 1)).toInt + (z7).toInt + 2147483648 by omega) (show (z1 * (s0.1 1)).toInt + (z7).toInt + 2147483648 < 4294967296 by omega)] at e766
      have p767 : 0 ≤ ((z1 * (s0.1 1)) + z7).toInt ∧ ((z1 * (s0.1 1)) + z7).toInt < 40 := by omega
      refine wq_X0_flapFor h757 h758 p767 (fun r_2 q768 => ?_)
      refine ⟨fun c769 => ?_, fun c770 => ?_⟩
      · replace c769 := q_neq c769
        rw [li_m1] at c769
        have p771 : 0 ≤ ((z1 * (s0.1 1)) + z7).toInt ∧ ((z1 * (s0.1 1)) + z7).toInt < 40 := by omega
        refine wq_X0_flapsOnTo h757 p771 (fun r_5 => ?_)
        have p772 : 0 ≤ (z1).toInt ∧ (z1).toInt < R := by omega
        have e773 := tq_addr li_1 z7
        try rw [Int.emod_eq_of_lt (show 0 ≤ (z7).toInt + 1 + 2147483648 by omega) (show (z7).toInt + 1 + 2147483648 < 4294967296 by omega)] at e773
        have p774 : 0 ≤ (z7 + 1).toInt ∧ (z7 + 1).toInt ≤ W := by omega
        have p775 : W - (z7 + 1).toInt < ((n : Nat) : Int) := by (omega)
        exact ih _ _ _ _ _ _ p772 p774 p775
      · replace c770 := q_eq c770
        rw [li_m1] at c770
        have p776 : 0 ≤ (z1).toInt ∧ (z1).toInt < R := by omega
        have e777 := tq_addr li_1 z7
        try rw [Int.emod_eq_of_lt (show 0 ≤ (z7).toInt + 1 + 2147483648 by omega) (show (z7).toInt + 1 + 2147483648 < 4294967296 by omega)] at e777
        have p778 : 0 ≤ (z7 + 1).toInt ∧ (z7 + 1).toInt ≤ W := by omega
        have p779 : W - (z7 + 1).toInt < ((n : Nat) : Int) := by (omega)
        exact ih _ _ _ _ _ _ p776 p778 p779
theorem wq_X0_missesOf_L6 {s0 : Bd} {s1 : Tp} {post : Int32 → Prop} {e50 : Int32 → Int32 → Int32 → Int32 → Int32 → Int32 → Prop} {R W N : Int} (h780 : bi (R) (W) s0) (h781 : tz (N) s1) (ke50 : ∀ (z1 : Int32) (z2 : Int32) (z4 : Int32) (z5 : Int32) (z6 : Int32) (z7 : Int32), 0 ≤ (z1).toInt ∧ (z1).toInt < R → 0 ≤ (z7).toInt ∧ (z7).toInt ≤ W → e50 z1 z2 z4 z5 z6 z7) : ∀ (n : Nat) (z1 : Int32) (z2 : Int32) (z4 : Int32) (z5 : Int32) (z6 : Int32) (z7 : Int32), 0 ≤ (z1).toInt ∧ (z1).toInt < R → 0 ≤ (z7).toInt ∧ (z7).toInt ≤ W → W - (z7).toInt < (n : Int) → wp_X0_missesOf_L6 s0 s1 post e50 n z1 z2 z4 z5 z6 z7 := by
  have := h780.1
  have := h780.2.1
  have := h780.2.2.1
  have := h780.2.2.2.1
  have := h780.2.2.2.2.2.2.2.2.2
  have := h781.1
  have := h781.2
  intro n
  induction n with
  | zero =>
    intro z1 z2 z4 z5 z6 z7 i782 i783 i784
    exfalso
    omega
  | succ n ih =>
    intro z1 z2 z4 z5 z6 z7 i782 i783 i784
    unfold wp_X0_missesOf_L6
    refine ⟨fun c785 => ?_, fun c786 => ?_⟩
    · replace c785 := q_le c785
      have p787 : 0 ≤ (z1).toInt ∧ (z1).toInt < R := by omega
      have p788 : 0 ≤ (z7).toInt ∧ (z7).toInt ≤ W := by omega
      exact ke50 _ _ _ _ _ _ p787 p788
    · replace c786 := q_nle c786
      have := rw_l (a := z1) (b := (s0.1 1)) (R := R) (W := W) (by omega) (by omega) (by omega)
      have e789 := tq_add (z1 * (s0.1 1)) z7
      try rw [Int.emod_eq_of_lt (show 0 ≤ (z1 * (s0.1 1)).toInt + (z7).toInt + 2147483648 by omega) (show (z1 * (s0.1 1)).toInt + (z7).toInt + 2147483648 < 4294967296 by omega)] at e789
      have p790 : 0 ≤ ((z1 * (s0.1 1)) + z7).toInt ∧ ((z1 * (s0.1 1)) + z7).toInt < 40 := by omega
      refine wq_X0_flapFor h780 h781 p790 (fun r_2 q791 => ?_)
      refine ⟨fun c792 => ?_, fun c793 => ?_⟩
      · replace c792 := q_neq c792
        rw [li_m1] at c792
        have p794 : 0 ≤ (z1).toInt ∧ (z1).toInt < R := by omega
        have e795 := tq_addr li_1 z7
        try rw [Int.emod_eq_of_lt (show 0 ≤ (z7).toInt + 1 + 2147483648 by omega) (show (z7).toInt + 1 + 2147483648 < 4294967296 by omega)] at e795
        have p796 : 0 ≤ (z7 + 1).toInt ∧ (z7 + 1).toInt ≤ W := by omega
        have p797 : W - (z7 + 1).toInt < ((n : Nat) : Int) := by (omega)
        exact ih _ _ _ _ _ _ p794 p796 p797
      · replace c793 := q_eq c793
        rw [li_m1] at c793
        have p798 : 0 ≤ (z1).toInt ∧ (z1).toInt < R := by omega
        have e799 := tq_addr li_1 z7
        try rw [Int.emod_eq_of_lt (show 0 ≤ (z7).toInt + 1 + 2147483648 by omega) (show (z7).toInt + 1 + 2147483648 < 4294967296 by omega)] at e799
        have p800 : 0 ≤ (z7 + 1).toInt ∧ (z7 + 1).toInt ≤ W := by omega
        have p801 : W - (z7 + 1).toInt < ((n : Nat) : Int) := by (omega)
        exact ih _ _ _ _ _ _ p798 p800 p801
theorem wq_X0_costOf {post : Int32 → Prop} {s0 : Bd} {s1 : Tp} {x1 : Int32} {x2 : Int32} {x4 : Int32} {x5 : Int32} {R W N : Int} (h802 : bi (R) (W) s0) (h803 : tz (N) s1) (h804 : 0 ≤ (x1).toInt ∧ (x1).toInt < R) (k : ∀ (r : Int32), post r) : wp_X0_costOf post s0 s1 x1 x2 x4 x5 := by
  unfold wp_X0_costOf
  have := h802.1
  have := h802.2.1
  have := h802.2.2.1
  have := h802.2.2.2.1
  have := h802.2.2.2.2.2.2.2.2.2
  have := h803.1
  have := h803.2
  have p805 : 0 ≤ (x1).toInt ∧ (x1).toInt < R := by omega
  have p806 : 0 ≤ (0 : Int32).toInt ∧ (0 : Int32).toInt ≤ W := by (have := li_0; omega)
  obtain ⟨f807, g808⟩ := fu_e 50
  have p809 : W - (0 : Int32).toInt < (f807 : Int) := by (have := li_0; omega)
  refine ⟨f807, wq_X0_costOf_L6 h802 h803 (fun z1 z2 z4 z5 z6 z7 q810 q811 => ?_) f807 _ _ _ _ _ _ p805 p806 p809⟩
  exact k _
theorem wq_X0_missesOf {post : Int32 → Prop} {s0 : Bd} {s1 : Tp} {x1 : Int32} {x2 : Int32} {x4 : Int32} {x5 : Int32} {R W N : Int} (h812 : bi (R) (W) s0) (h813 : tz (N) s1) (h814 : 0 ≤ (x1).toInt ∧ (x1).toInt < R) (k : ∀ (r : Int32), post r) : wp_X0_missesOf post s0 s1 x1 x2 x4 x5 := by
  unfold wp_X0_missesOf
  have := h812.1
  have := h812.2.1
  have := h812.2.2.1
  have := h812.2.2.2.1
  have := h812.2.2.2.2.2.2.2.2.2
  have := h813.1
  have := h813.2
  have p815 : 0 ≤ (x1).toInt ∧ (x1).toInt < R := by omega
  have p816 : 0 ≤ (0 : Int32).toInt ∧ (0 : Int32).toInt ≤ W := by (have := li_0; omega)
  obtain ⟨f817, g818⟩ := fu_e 50
  have p819 : W - (0 : Int32).toInt < (f817 : Int) := by (have := li_0; omega)
  refine ⟨f817, wq_X0_missesOf_L6 h812 h813 (fun z1 z2 z4 z5 z6 z7 q820 q821 => ?_) f817 _ _ _ _ _ _ p815 p816 p819⟩
  exact k _
theorem wq_X0_wantFlap {post : Int32 → Bd → Prop} {s0 : Bd} {x1 : Int32} {x2 : Int32} {R W : Int} (h822 : bi (R) (W) s0) (h823 : 0 ≤ (x1).toInt ∧ (x1).toInt < 40) (h824 : -1 ≤ (x2).toInt ∧ (x2).toInt ≤ 39) (k : ∀ (r : Int32) (u : Bd), bi (R) (W) u → post r u) : wp_X0_wantFlap post s0 x1 x2 := by
  unfold wp_X0_wantFlap
  have := h822.1
  have := h822.2.1
  have := h822.2.2.1
  have := h822.2.2.2.1
  have := h822.2.2.2.2.2.2.2.2.2
  refine ⟨fun c825 => ?_, fun c826 => ?_⟩
  · replace c825 := q_neq c825
    rw [li_m1] at c825
    have v827 : vp_in x1 40 := vi (by omega) (by omega)
    refine ⟨v827, ?_⟩
    refine ⟨v827, ?_⟩
    refine ⟨v827, ?_⟩
    have p828 : (s0.1 0).toInt = R := by omega
    have p829 : (s0.1 1).toInt = W := by omega
    have p830 : 0 ≤ (s0.1 3).toInt ∧ (s0.1 3).toInt ≤ 4 := by omega
    have p831 : 0 ≤ R ∧ R ≤ 6 ∧ 0 ≤ W ∧ W ≤ 10 ∧ 0 ≤ R * W ∧ R * W ≤ 40 := by omega
    have p832 : ar 4 (0) (40) (s0.2.1 1) := h822.2.2.2.2.1
    have p833 : ar 40 (0) (3) (s0.2.1 3) := h822.2.2.2.2.2.1
    have p834 : ar 40 (0) (39) (s0.2.1 4) := h822.2.2.2.2.2.2.1
    have p835 : ar 40 (0) (39) (s0.2.1 5) := h822.2.2.2.2.2.2.2.1
    have p836 : ar 40 (0) (39) (upd (s0.2.1 6) (Int32.toNatClampNeg x1) x2) := (ar_upd h822.2.2.2.2.2.2.2.2.1 (by omega) (by omega))
    have p837 : s0.2.2.2.1 ≤ 6400 := by omega
    have B838 : bi (R) (W) (s0.1, (va_up s0.2.1 6 (upd (s0.2.1 6) (Int32.toNatClampNeg x1) x2)), s0.2.2.1, s0.2.2.2.1, s0.2.2.2.2) := ⟨p828, p829, p830, p831, p832, p833, p834, p835, p836, p837⟩
    refine wq_X0_entryStart B838 (fun r_5 q839 => ?_)
    replace q839 : 0 ≤ (r_5).toInt ∧ (r_5).toInt ≤ 6400 := q839
    have p840 : 0 ≤ (x1).toInt ∧ (x1).toInt < 40 := by omega
    refine wq_X0_flapsOf B838 p840 (fun r_7 q841 => ?_)
    replace q841 : 0 ≤ (r_7).toInt ∧ (r_7).toInt ≤ 40 := q841
    refine ⟨fun c842 => ?_, fun c843 => ?_⟩
    · replace c842 := q_eq c842
      have := ar_at (h822.2.2.2.2.2.2.2.1) v827
      exact k _ _ B838
    · replace c843 := q_neq c843
      have := ar_at (h822.2.2.2.2.2.2.2.1) v827
      refine ⟨fun c844 => ?_, fun c845 => ?_⟩
      · replace c844 := q_lt c844
        rw [li_0] at c844
        have e846 := tq_add r_5 ((s0.2.1 5 (Int32.toNatClampNeg x1)) * r_7)
        try rw [Int.emod_eq_of_lt (show 0 ≤ (r_5).toInt + ((s0.2.1 5 (Int32.toNatClampNeg x1)) * r_7).toInt + 2147483648 by omega) (show (r_5).toInt + ((s0.2.1 5 (Int32.toNatClampNeg x1)) * r_7).toInt + 2147483648 < 4294967296 by omega)] at e846
        have e847 := tq_add (r_5 + ((s0.2.1 5 (Int32.toNatClampNeg x1)) * r_7)) x2
        try rw [Int.emod_eq_of_lt (show 0 ≤ (r_5 + ((s0.2.1 5 (Int32.toNatClampNeg x1)) * r_7)).toInt + (x2).toInt + 2147483648 by omega) (show (r_5 + ((s0.2.1 5 (Int32.toNatClampNeg x1)) * r_7)).toInt + (x2).toInt + 2147483648 < 4294967296 by omega)] at e847
        exact k _ _ B838
      · replace c845 := q_nlt c845
        rw [li_0] at c845
        have e848 := tq_add r_5 ((s0.2.1 5 (Int32.toNatClampNeg x1)) * r_7)
        try rw [Int.emod_eq_of_lt (show 0 ≤ (r_5).toInt + ((s0.2.1 5 (Int32.toNatClampNeg x1)) * r_7).toInt + 2147483648 by omega) (show (r_5).toInt + ((s0.2.1 5 (Int32.toNatClampNeg x1)) * r_7).toInt + 2147483648 < 4294967296 by omega)] at e848
        have e849 := tq_add (r_5 + ((s0.2.1 5 (Int32.toNatClampNeg x1)) * r_7)) x2
        try rw [Int.emod_eq_of_lt (show 0 ≤ (r_5 + ((s0.2.1 5 (Int32.toNatClampNeg x1)) * r_7)).toInt + (x2).toInt + 2147483648 by omega) (show (r_5 + ((s0.2.1 5 (Int32.toNatClampNeg x1)) * r_7)).toInt + (x2).toInt + 2147483648 < 4294967296 by omega)] at e849
        refine ⟨fun c850 => ?_, fun c851 => ?_⟩
        · replace c850 := q_le c850
          have := tq_ofn (n := s0.2.2.2.1) (by omega)
          exact k _ _ B838
        · replace c851 := q_nle c851
          have := tq_ofn (n := s0.2.2.2.1) (by omega)
          have v852 : vp_in ((r_5 + ((s0.2.1 5 (Int32.toNatClampNeg x1)) * r_7)) + x2) s0.2.2.2.1 := vi (by omega) (by omega)
          refine ⟨v852, ?_⟩
          refine ⟨v852, ?_⟩
          have p853 : (s0.1 0).toInt = R := by omega
          have p854 : (s0.1 1).toInt = W := by omega
          have p855 : 0 ≤ (s0.1 3).toInt ∧ (s0.1 3).toInt ≤ 4 := by omega
          have p856 : 0 ≤ R ∧ R ≤ 6 ∧ 0 ≤ W ∧ W ≤ 10 ∧ 0 ≤ R * W ∧ R * W ≤ 40 := by omega
          have p857 : ar 4 (0) (40) (s0.2.1 1) := h822.2.2.2.2.1
          have p858 : ar 40 (0) (3) (s0.2.1 3) := h822.2.2.2.2.2.1
          have p859 : ar 40 (0) (39) (s0.2.1 4) := h822.2.2.2.2.2.2.1
          have p860 : ar 40 (0) (39) (s0.2.1 5) := h822.2.2.2.2.2.2.2.1
          have p861 : ar 40 (0) (39) (upd (s0.2.1 6) (Int32.toNatClampNeg x1) x2) := (ar_upd h822.2.2.2.2.2.2.2.2.1 (by omega) (by omega))
          have p862 : s0.2.2.2.1 ≤ 6400 := by omega
          have B863 : bi (R) (W) (s0.1, (va_up s0.2.1 6 (upd (s0.2.1 6) (Int32.toNatClampNeg x1) x2)), s0.2.2.1, s0.2.2.2.1, (upd s0.2.2.2.2 (Int32.toNatClampNeg ((r_5 + ((s0.2.1 5 (Int32.toNatClampNeg x1)) * r_7)) + x2)) ((s0.2.2.2.2 (Int32.toNatClampNeg ((r_5 + ((s0.2.1 5 (Int32.toNatClampNeg x1)) * r_7)) + x2))) + 1))) := ⟨p853, p854, p855, p856, p857, p858, p859, p860, p861, p862⟩
          exact k _ _ B863
  · replace c826 := q_eq c826
    rw [li_m1] at c826
    exact k _ _ h822
theorem wq_X0_wantSigns_L6 {s1 : Tp} {post : Int32 → Bd → Prop} {e55 : Bd → Int32 → Int32 → Int32 → Int32 → Int32 → Prop} {N R W : Int} (h864 : tz (N) s1) (ke55 : ∀ (t0 : Bd) (z1 : Int32) (z3 : Int32) (z4 : Int32) (z5 : Int32) (z6 : Int32), bi (R) (W) t0 → 0 ≤ (z1).toInt ∧ (z1).toInt < R → 0 ≤ (z6).toInt ∧ (z6).toInt ≤ W → e55 t0 z1 z3 z4 z5 z6) : ∀ (n : Nat) (t0 : Bd) (z1 : Int32) (z3 : Int32) (z4 : Int32) (z5 : Int32) (z6 : Int32), bi (R) (W) t0 → 0 ≤ (z1).toInt ∧ (z1).toInt < R → 0 ≤ (z6).toInt ∧ (z6).toInt ≤ W → W - (z6).toInt < (n : Int) → wp_X0_wantSigns_L6 s1 post e55 n t0 z1 z3 z4 z5 z6 := by
  have := h864.1
  have := h864.2
  intro n
  induction n with
  | zero =>
    intro t0 z1 z3 z4 z5 z6 i865 i866 i867 i868
    have := i865.1
    have := i865.2.1
    have := i865.2.2.1
    have := i865.2.2.2.1
    have := i865.2.2.2.2.2.2.2.2.2
    exfalso
    omega
  | succ n ih =>
    intro t0 z1 z3 z4 z5 z6 i865 i866 i867 i868
    unfold wp_X0_wantSigns_L6
    have := i865.1
    have := i865.2.1
    have := i865.2.2.1
    have := i865.2.2.2.1
    have := i865.2.2.2.2.2.2.2.2.2
    refine ⟨fun c869 => ?_, fun c870 => ?_⟩
    · replace c869 := q_le c869
      have p871 : 0 ≤ (z1).toInt ∧ (z1).toInt < R := by omega
      have p872 : 0 ≤ (z6).toInt ∧ (z6).toInt ≤ W := by omega
      exact ke55 _ _ _ _ _ _ i865 p871 p872
    · replace c870 := q_nle c870
      have := rw_l (a := z1) (b := (t0.1 1)) (R := R) (W := W) (by omega) (by omega) (by omega)
      have e873 := tq_add (z1 * (t0.1 1)) z6
      try rw [Int.emod_eq_of_lt (show 0 ≤ (z1 * (t0.1 1)).toInt + (z6).toInt + 2147483648 by omega) (show (z1 * (t0.1 1)).toInt + (z6).toInt + 2147483648 < 4294967296 by omega)] at e873
      have p874 : 0 ≤ ((z1 * (t0.1 1)) + z6).toInt ∧ ((z1 * (t0.1 1)) + z6).toInt < 40 := by omega
      refine wq_X0_flapFor i865 h864 p874 (fun r_2 q875 => ?_)
      have p876 : 0 ≤ ((z1 * (t0.1 1)) + z6).toInt ∧ ((z1 * (t0.1 1)) + z6).toInt < 40 := by omega
      have p877 : -1 ≤ (r_2).toInt ∧ (r_2).toInt ≤ 39 := by omega
      refine wq_X0_wantFlap i865 p876 p877 (fun r_4 u_5 q878 => ?_)
      have := q878.1
      have := q878.2.1
      have := q878.2.2.1
      have := q878.2.2.2.2.2.2.2.2.2
      have p879 : 0 ≤ (z1).toInt ∧ (z1).toInt < R := by omega
      have e880 := tq_addr li_1 z6
      try rw [Int.emod_eq_of_lt (show 0 ≤ (z6).toInt + 1 + 2147483648 by omega) (show (z6).toInt + 1 + 2147483648 < 4294967296 by omega)] at e880
      have p881 : 0 ≤ (z6 + 1).toInt ∧ (z6 + 1).toInt ≤ W := by omega
      have p882 : W - (z6 + 1).toInt < ((n : Nat) : Int) := by (omega)
      exact ih _ _ _ _ _ _ q878 p879 p881 p882
theorem wq_X0_wantSigns {post : Int32 → Bd → Prop} {s0 : Bd} {s1 : Tp} {x1 : Int32} {x3 : Int32} {x4 : Int32} {R W N : Int} (h883 : bi (R) (W) s0) (h884 : tz (N) s1) (h885 : 0 ≤ (x1).toInt ∧ (x1).toInt < R) (k : ∀ (r : Int32) (u : Bd), bi (R) (W) u → post r u) : wp_X0_wantSigns post s0 s1 x1 x3 x4 := by
  unfold wp_X0_wantSigns
  have := h883.1
  have := h883.2.1
  have := h883.2.2.1
  have := h883.2.2.2.1
  have := h883.2.2.2.2.2.2.2.2.2
  have := h884.1
  have := h884.2
  have p886 : 0 ≤ (x1).toInt ∧ (x1).toInt < R := by omega
  have p887 : 0 ≤ (0 : Int32).toInt ∧ (0 : Int32).toInt ≤ W := by (have := li_0; omega)
  obtain ⟨f888, g889⟩ := fu_e 50
  have p890 : W - (0 : Int32).toInt < (f888 : Int) := by (have := li_0; omega)
  refine ⟨f888, wq_X0_wantSigns_L6 h884 (fun t0 z1 z3 z4 z5 z6 q891 q892 q893 => ?_) f888 _ _ _ _ _ _ h883 p886 p887 p890⟩
  have := q891.1
  have := q891.2.1
  have := q891.2.2.1
  have := q891.2.2.2.2.2.2.2.2.2
  exact k _ _ q891
theorem wq_X0_scrollUp_L6 {s1 : Tp} {post : Int32 → Bd → Prop} {e54 : Bd → Int32 → Int32 → Int32 → Int32 → Prop} {N R W : Int} (h894 : tz (N) s1) (ke54 : ∀ (t0 : Bd) (z2 : Int32) (z3 : Int32) (z4 : Int32) (z5 : Int32), bi (R) (W) t0 → 0 ≤ (z5).toInt ∧ (z5).toInt ≤ R * W → 1 ≤ R → e54 t0 z2 z3 z4 z5) : ∀ (n : Nat) (t0 : Bd) (z2 : Int32) (z3 : Int32) (z4 : Int32) (z5 : Int32), bi (R) (W) t0 → 0 ≤ (z5).toInt ∧ (z5).toInt ≤ R * W → 1 ≤ R → R * W - (z5).toInt < (n : Int) → wp_X0_scrollUp_L6 s1 post e54 n t0 z2 z3 z4 z5 := by
  have := h894.1
  have := h894.2
  intro n
  induction n with
  | zero =>
    intro t0 z2 z3 z4 z5 i895 i896 i897 i898
    have := i895.1
    have := i895.2.1
    have := i895.2.2.1
    have := i895.2.2.2.1
    have := i895.2.2.2.2.2.2.2.2.2
    exfalso
    omega
  | succ n ih =>
    intro t0 z2 z3 z4 z5 i895 i896 i897 i898
    unfold wp_X0_scrollUp_L6
    have := i895.1
    have := i895.2.1
    have := i895.2.2.1
    have := i895.2.2.2.1
    have := i895.2.2.2.2.2.2.2.2.2
    refine wq_X0_cells i895 (fun r_1 q899 => ?_)
    refine ⟨fun c900 => ?_, fun c901 => ?_⟩
    · replace c900 := q_le c900
      have e902 := tq_sub r_1 (t0.1 1)
      try rw [Int.emod_eq_of_lt (show 0 ≤ (r_1).toInt - (t0.1 1).toInt + 2147483648 by omega) (show (r_1).toInt - (t0.1 1).toInt + 2147483648 < 4294967296 by omega)] at e902
      have p903 : 0 ≤ (z5).toInt ∧ (z5).toInt ≤ R * W := by omega
      have p904 : 1 ≤ R := by omega
      exact ke54 _ _ _ _ _ i895 p903 p904
    · replace c901 := q_nle c901
      have e905 := tq_sub r_1 (t0.1 1)
      try rw [Int.emod_eq_of_lt (show 0 ≤ (r_1).toInt - (t0.1 1).toInt + 2147483648 by omega) (show (r_1).toInt - (t0.1 1).toInt + 2147483648 < 4294967296 by omega)] at e905
      have e906 := tq_add z5 (t0.1 1)
      try rw [Int.emod_eq_of_lt (show 0 ≤ (z5).toInt + (t0.1 1).toInt + 2147483648 by omega) (show (z5).toInt + (t0.1 1).toInt + 2147483648 < 4294967296 by omega)] at e906
      have p907 : 0 ≤ (z5 + (t0.1 1)).toInt ∧ (z5 + (t0.1 1)).toInt < 40 := by omega
      refine wq_X0_wantedSign i895 p907 (fun r_4 => ?_)
      have p908 : 0 ≤ (z5).toInt ∧ (z5).toInt < 40 := by omega
      refine wq_X0_nearest i895 p908 (fun r_6 q909 => ?_)
      have p910 : 0 ≤ (z5).toInt ∧ (z5).toInt < 40 := by omega
      have p911 : -1 ≤ (r_6).toInt ∧ (r_6).toInt ≤ 39 := by omega
      refine wq_X0_wantFlap i895 p910 p911 (fun r_8 u_9 q912 => ?_)
      have := q912.1
      have := q912.2.1
      have := q912.2.2.1
      have := q912.2.2.2.2.2.2.2.2.2
      have e913 := tq_addr li_1 z5
      try rw [Int.emod_eq_of_lt (show 0 ≤ (z5).toInt + 1 + 2147483648 by omega) (show (z5).toInt + 1 + 2147483648 < 4294967296 by omega)] at e913
      have p914 : 0 ≤ (z5 + 1).toInt ∧ (z5 + 1).toInt ≤ R * W := by omega
      have p915 : 1 ≤ R := by omega
      have p916 : R * W - (z5 + 1).toInt < ((n : Nat) : Int) := by (omega)
      exact ih _ _ _ _ _ q912 p914 p915 p916
theorem wq_X0_scrollUp {post : Int32 → Bd → Prop} {s0 : Bd} {s1 : Tp} {x2 : Int32} {x3 : Int32} {R W N : Int} (h917 : bi (R) (W) s0) (h918 : tz (N) s1) (h919 : 1 ≤ R) (k : ∀ (r : Int32) (u : Bd), bi (R) (W) u → post r u) : wp_X0_scrollUp post s0 s1 x2 x3 := by
  unfold wp_X0_scrollUp
  have := h917.1
  have := h917.2.1
  have := h917.2.2.1
  have := h917.2.2.2.1
  have := h917.2.2.2.2.2.2.2.2.2
  have := h918.1
  have := h918.2
  have p920 : 0 ≤ (0 : Int32).toInt ∧ (0 : Int32).toInt ≤ R * W := by (have := li_0; omega)
  have p921 : 1 ≤ R := by omega
  obtain ⟨f922, g923⟩ := fu_e 50
  have p924 : R * W - (0 : Int32).toInt < (f922 : Int) := by (have := li_0; omega)
  refine ⟨f922, wq_X0_scrollUp_L6 h918 (fun t0 z2 z3 z4 z5 q925 q926 q927 => ?_) f922 _ _ _ _ _ h917 p920 p921 p924⟩
  have := q925.1
  have := q925.2.1
  have := q925.2.2.1
  have := q925.2.2.2.2.2.2.2.2.2
  have e928 := tq_subr li_1 (t0.1 0)
  try rw [Int.emod_eq_of_lt (show 0 ≤ (t0.1 0).toInt - 1 + 2147483648 by omega) (show (t0.1 0).toInt - 1 + 2147483648 < 4294967296 by omega)] at e928
  have p929 : 0 ≤ ((t0.1 0) - 1).toInt ∧ ((t0.1 0) - 1).toInt < R := by omega
  refine wq_X0_wantSigns q925 h918 p929 (fun r_10 u_11 q930 => ?_)
  have := q930.1
  have := q930.2.1
  have := q930.2.2.1
  have := q930.2.2.2.2.2.2.2.2.2
  exact k _ _ q930
theorem wq_X0_wantHome_L2 {post : Bd → Prop} {e30 : Bd → Int32 → Int32 → Prop} {R W : Int} (ke30 : ∀ (t0 : Bd) (z1 : Int32) (z2 : Int32), bi (R) (W) t0 → 0 ≤ (z1).toInt ∧ (z1).toInt < R → 0 ≤ (z2).toInt ∧ (z2).toInt ≤ W → e30 t0 z1 z2) : ∀ (n : Nat) (t0 : Bd) (z1 : Int32) (z2 : Int32), bi (R) (W) t0 → 0 ≤ (z1).toInt ∧ (z1).toInt < R → 0 ≤ (z2).toInt ∧ (z2).toInt ≤ W → W - (z2).toInt < (n : Int) → wp_X0_wantHome_L2 post e30 n t0 z1 z2 := by
  intro n
  induction n with
  | zero =>
    intro t0 z1 z2 i931 i932 i933 i934
    have := i931.1
    have := i931.2.1
    have := i931.2.2.1
    have := i931.2.2.2.1
    have := i931.2.2.2.2.2.2.2.2.2
    exfalso
    omega
  | succ n ih =>
    intro t0 z1 z2 i931 i932 i933 i934
    unfold wp_X0_wantHome_L2
    have := i931.1
    have := i931.2.1
    have := i931.2.2.1
    have := i931.2.2.2.1
    have := i931.2.2.2.2.2.2.2.2.2
    refine ⟨fun c935 => ?_, fun c936 => ?_⟩
    · replace c935 := q_le c935
      have p937 : 0 ≤ (z1).toInt ∧ (z1).toInt < R := by omega
      have p938 : 0 ≤ (z2).toInt ∧ (z2).toInt ≤ W := by omega
      exact ke30 _ _ _ i931 p937 p938
    · replace c936 := q_nle c936
      have := rw_l (a := z1) (b := (t0.1 1)) (R := R) (W := W) (by omega) (by omega) (by omega)
      have e939 := tq_add (z1 * (t0.1 1)) z2
      try rw [Int.emod_eq_of_lt (show 0 ≤ (z1 * (t0.1 1)).toInt + (z2).toInt + 2147483648 by omega) (show (z1 * (t0.1 1)).toInt + (z2).toInt + 2147483648 < 4294967296 by omega)] at e939
      have v940 : vp_in ((z1 * (t0.1 1)) + z2) 40 := vi (by omega) (by omega)
      refine ⟨v940, ?_⟩
      have p941 : (t0.1 0).toInt = R := by omega
      have p942 : (t0.1 1).toInt = W := by omega
      have p943 : 0 ≤ (t0.1 3).toInt ∧ (t0.1 3).toInt ≤ 4 := by omega
      have p944 : 0 ≤ R ∧ R ≤ 6 ∧ 0 ≤ W ∧ W ≤ 10 ∧ 0 ≤ R * W ∧ R * W ≤ 40 := by omega
      have p945 : ar 4 (0) (40) (t0.2.1 1) := i931.2.2.2.2.1
      have p946 : ar 40 (0) (3) (t0.2.1 3) := i931.2.2.2.2.2.1
      have p947 : ar 40 (0) (39) (t0.2.1 4) := i931.2.2.2.2.2.2.1
      have p948 : ar 40 (0) (39) (t0.2.1 5) := i931.2.2.2.2.2.2.2.1
      have p949 : ar 40 (0) (39) (upd (t0.2.1 6) (Int32.toNatClampNeg ((z1 * (t0.1 1)) + z2)) 0) := (ar_upd i931.2.2.2.2.2.2.2.2.1 (by decide) (by decide))
      have p950 : t0.2.2.2.1 ≤ 6400 := by omega
      have B951 : bi (R) (W) (t0.1, (va_up t0.2.1 6 (upd (t0.2.1 6) (Int32.toNatClampNeg ((z1 * (t0.1 1)) + z2)) 0)), t0.2.2.1, t0.2.2.2.1, t0.2.2.2.2) := ⟨p941, p942, p943, p944, p945, p946, p947, p948, p949, p950⟩
      have p952 : 0 ≤ (z1).toInt ∧ (z1).toInt < R := by omega
      have e953 := tq_addr li_1 z2
      try rw [Int.emod_eq_of_lt (show 0 ≤ (z2).toInt + 1 + 2147483648 by omega) (show (z2).toInt + 1 + 2147483648 < 4294967296 by omega)] at e953
      have p954 : 0 ≤ (z2 + 1).toInt ∧ (z2 + 1).toInt ≤ W := by omega
      have p955 : W - (z2 + 1).toInt < ((n : Nat) : Int) := by (omega)
      exact ih _ _ _ B951 p952 p954 p955
