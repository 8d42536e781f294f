theorem wq_X6_usual {post : Int32 → Prop} {s2 : Bd} {x1 : Int32} {x2 : Int32} {R W : Int} (h3811 : bi (R) (W) s2) (k : ∀ (r : Int32), post r) : wp_X6_usual post s2 x1 x2 := by
  unfold wp_X6_usual
  have := h3811.1
  have := h3811.2.1
  have := h3811.2.2.1
  have := h3811.2.2.2.1
  have := h3811.2.2.2.2.2.2.2.2.2
  refine wq_X0_hasDrum h3811 (fun r_1 q3812 => ?_)
  refine ⟨fun c3813 => ?_, fun c3814 => ?_⟩
  · replace c3813 := q_eq c3813
    rw [li_0] at c3813
    exact k _
  · replace c3814 := q_neq c3814
    rw [li_0] at c3814
    refine ⟨fun c3815 => ?_, fun c3816 => ?_⟩
    · replace c3815 := q_lt c3815
      rw [li_0] at c3815
      exact k _
    · replace c3816 := q_nlt c3816
      rw [li_0] at c3816
      refine ⟨fun c3817 => ?_, fun c3818 => ?_⟩
      · replace c3817 := q_le c3817
        rw [li_1] at c3817
        have p3819 : 0 ≤ (0 : Int32).toInt ∧ (0 : Int32).toInt ≤ 40 := by (have := li_0; omega)
        obtain ⟨f3820, g3821⟩ := fu_e 50
        have p3822 : 40 - (0 : Int32).toInt < (f3820 : Int) := by (have := li_0; omega)
        refine ⟨f3820, wq_X6_usual_L30 h3811 (fun z1 z2 z3 z4 z5 q3823 => ?_) f3820 _ _ _ _ _ p3819 p3822⟩
        refine ⟨fun c3824 => ?_, fun c3825 => ?_⟩
        · replace c3824 := q_neq c3824
          rw [li_m1] at c3824
          refine ⟨fun c3826 => ?_, fun c3827 => ?_⟩
          · replace c3826 := q_neq c3826
            rw [li_0] at c3826
            exact k _
          · replace c3827 := q_eq c3827
            rw [li_0] at c3827
            exact k _
        · replace c3825 := q_eq c3825
          rw [li_m1] at c3825
          exact k _
      · replace c3818 := q_nle c3818
        rw [li_1] at c3818
        exact k _
theorem wq_X6_better_L55 {s2 : Bd} {post : Int32 → Prop} {e100 : Int32 → Int32 → Int32 → Int32 → Int32 → Int32 → Int32 → Int32 → Prop} {R W Z Y : Int} (h3828 : bi (R) (W) s2) (ke100 : ∀ (z1 : Int32) (z2 : Int32) (z3 : Int32) (z4 : Int32) (z5 : Int32) (z6 : Int32) (z7 : Int32) (z8 : Int32), 0 ≤ (z8).toInt ∧ (z8).toInt ≤ 41 ∧ (z3).toInt ≤ 40 → (z7).toInt = Z → (z3).toInt = Y → e100 z1 z2 z3 z4 z5 z6 z7 z8) : ∀ (n : Nat) (z1 : Int32) (z2 : Int32) (z3 : Int32) (z4 : Int32) (z5 : Int32) (z6 : Int32) (z7 : Int32) (z8 : Int32), 0 ≤ (z8).toInt ∧ (z8).toInt ≤ 41 ∧ (z3).toInt ≤ 40 → (z7).toInt = Z → (z3).toInt = Y → 41 - (z8).toInt < (n : Int) → wp_X6_better_L55 s2 post e100 n z1 z2 z3 z4 z5 z6 z7 z8 := by
  have := h3828.1
  have := h3828.2.1
  have := h3828.2.2.1
  have := h3828.2.2.2.1
  have := h3828.2.2.2.2.2.2.2.2.2
  intro n
  induction n with
  | zero =>
    intro z1 z2 z3 z4 z5 z6 z7 z8 i3829 i3830 i3831 i3832
    exfalso
    omega
  | succ n ih =>
    intro z1 z2 z3 z4 z5 z6 z7 z8 i3829 i3830 i3831 i3832
    unfold wp_X6_better_L55
    refine ⟨fun c3833 => ?_, fun c3834 => ?_⟩
    · replace c3833 := q_le c3833
      have p3835 : 0 ≤ (z8).toInt ∧ (z8).toInt ≤ 41 ∧ (z3).toInt ≤ 40 := by omega
      have p3836 : (z7).toInt = Z := by omega
      have p3837 : (z3).toInt = Y := by omega
      exact ke100 _ _ _ _ _ _ _ _ p3835 p3836 p3837
    · replace c3834 := q_nle c3834
      refine wq_X0_journeyChange h3828 (fun r_10 => ?_)
      refine ⟨fun c3838 => ?_, fun c3839 => ?_⟩
      · replace c3838 := q_le c3838
        have e3840 := tq_addr li_1 z8
        try rw [Int.emod_eq_of_lt (show 0 ≤ (z8).toInt + 1 + 2147483648 by omega) (show (z8).toInt + 1 + 2147483648 < 4294967296 by omega)] at e3840
        have p3841 : 0 ≤ (z8 + 1).toInt ∧ (z8 + 1).toInt ≤ 41 ∧ (z3).toInt ≤ 40 := by omega
        have p3842 : (z7).toInt = Z := by omega
        have p3843 : (z3).toInt = Y := by omega
        have p3844 : 41 - (z8 + 1).toInt < ((n : Nat) : Int) := by (omega)
        exact ih _ _ _ _ _ _ _ _ p3841 p3842 p3843 p3844
      · replace c3839 := q_nle c3839
        have e3845 := tq_addr li_1 z8
        try rw [Int.emod_eq_of_lt (show 0 ≤ (z8).toInt + 1 + 2147483648 by omega) (show (z8).toInt + 1 + 2147483648 < 4294967296 by omega)] at e3845
        have p3846 : 0 ≤ (z8 + 1).toInt ∧ (z8 + 1).toInt ≤ 41 ∧ (z3).toInt ≤ 40 := by omega
        have p3847 : (z7).toInt = Z := by omega
        have p3848 : (z3).toInt = Y := by omega
        have p3849 : 41 - (z8 + 1).toInt < ((n : Nat) : Int) := by (omega)
        exact ih _ _ _ _ _ _ _ _ p3846 p3847 p3848 p3849
theorem wq_X6_better_L43 {s2 : Bd} {post : Int32 → Prop} {e106 : Int32 → Int32 → Int32 → Int32 → Int32 → Int32 → Int32 → Prop} {R W : Int} (h3850 : bi (R) (W) s2) (ke106 : ∀ (z1 : Int32) (z2 : Int32) (z3 : Int32) (z4 : Int32) (z5 : Int32) (z6 : Int32) (z7 : Int32), 0 ≤ (z7).toInt ∧ (z7).toInt ≤ 41 ∧ (z3).toInt ≤ 40 → e106 z1 z2 z3 z4 z5 z6 z7) : ∀ (n : Nat) (z1 : Int32) (z2 : Int32) (z3 : Int32) (z4 : Int32) (z5 : Int32) (z6 : Int32) (z7 : Int32), 0 ≤ (z7).toInt ∧ (z7).toInt ≤ 41 ∧ (z3).toInt ≤ 40 → 41 - (z7).toInt < (n : Int) → wp_X6_better_L43 s2 post e106 n z1 z2 z3 z4 z5 z6 z7 := by
  have := h3850.1
  have := h3850.2.1
  have := h3850.2.2.1
  have := h3850.2.2.2.1
  have := h3850.2.2.2.2.2.2.2.2.2
  intro n
  induction n with
  | zero =>
    intro z1 z2 z3 z4 z5 z6 z7 i3851 i3852
    exfalso
    omega
  | succ n ih =>
    intro z1 z2 z3 z4 z5 z6 z7 i3851 i3852
    unfold wp_X6_better_L43
    refine ⟨fun c3853 => ?_, fun c3854 => ?_⟩
    · replace c3853 := q_le c3853
      have p3855 : 0 ≤ (z7).toInt ∧ (z7).toInt ≤ 41 ∧ (z3).toInt ≤ 40 := by omega
      exact ke106 _ _ _ _ _ _ _ p3855
    · replace c3854 := q_nle c3854
      have e3856 := tq_addr li_1 z7
      try rw [Int.emod_eq_of_lt (show 0 ≤ (z7).toInt + 1 + 2147483648 by omega) (show (z7).toInt + 1 + 2147483648 < 4294967296 by omega)] at e3856
      have p3857 : 0 ≤ (z7 + 1).toInt ∧ (z7 + 1).toInt ≤ 41 ∧ (z3).toInt ≤ 40 := by omega
      have p3858 : (z7).toInt = ((z7).toInt) := by omega
      have p3859 : (z3).toInt = ((z3).toInt) := by omega
      obtain ⟨f3860, g3861⟩ := fu_e 50
      have p3862 : 41 - (z7 + 1).toInt < (f3860 : Int) := by (omega)
      refine ⟨f3860, wq_X6_better_L55 h3850 (fun z1_3863 z2_3864 z3_3865 z4_3866 z5_3867 z6_3868 z7_3869 z8 q3870 q3871 q3872 => ?_) f3860 _ _ _ _ _ _ _ _ p3857 p3858 p3859 p3862⟩
      have e3873 := tq_addr li_1 z7_3869
      try rw [Int.emod_eq_of_lt (show 0 ≤ (z7_3869).toInt + 1 + 2147483648 by omega) (show (z7_3869).toInt + 1 + 2147483648 < 4294967296 by omega)] at e3873
      have p3874 : 0 ≤ (z7_3869 + 1).toInt ∧ (z7_3869 + 1).toInt ≤ 41 ∧ (z3_3865).toInt ≤ 40 := by omega
      have p3875 : 41 - (z7_3869 + 1).toInt < ((n : Nat) : Int) := by (omega)
      exact ih _ _ _ _ _ _ _ p3874 p3875
theorem wq_X6_better {post : Int32 → Prop} {s2 : Bd} {x1 : Int32} {x2 : Int32} {R W : Int} (h3876 : bi (R) (W) s2) (k : ∀ (r : Int32), post r) : wp_X6_better post s2 x1 x2 := by
  unfold wp_X6_better
  have := h3876.1
  have := h3876.2.1
  have := h3876.2.2.1
  have := h3876.2.2.2.1
  have := h3876.2.2.2.2.2.2.2.2.2
  refine wq_X0_hasDrum h3876 (fun r_1 q3877 => ?_)
  refine ⟨fun c3878 => ?_, fun c3879 => ?_⟩
  · replace c3878 := q_eq c3878
    rw [li_0] at c3878
    exact k _
  · replace c3879 := q_neq c3879
    rw [li_0] at c3879
    refine ⟨fun c3880 => ?_, fun c3881 => ?_⟩
    · replace c3880 := q_lt c3880
      rw [li_0] at c3880
      exact k _
    · replace c3881 := q_nlt c3881
      rw [li_0] at c3881
      refine ⟨fun c3882 => ?_, fun c3883 => ?_⟩
      · replace c3882 := q_le c3882
        rw [li_2] at c3882
        refine wq_X0_flapsOn h3876 (fun r_6 q3884 q3885 => ?_)
        have p3886 : 0 ≤ (1 : Int32).toInt ∧ (1 : Int32).toInt ≤ 41 ∧ (r_6).toInt ≤ 40 := by (have := li_1; omega)
        obtain ⟨f3887, g3888⟩ := fu_e 50
        have p3889 : 41 - (1 : Int32).toInt < (f3887 : Int) := by (have := li_1; omega)
        refine ⟨f3887, wq_X6_better_L43 h3876 (fun z1 z2 z3 z4 z5 z6 z7 q3890 => ?_) f3887 _ _ _ _ _ _ _ p3886 p3889⟩
        refine ⟨fun c3891 => ?_, fun c3892 => ?_⟩
        · replace c3891 := q_neq c3891
          rw [li_m1] at c3891
          refine ⟨fun c3893 => ?_, fun c3894 => ?_⟩
          · replace c3893 := q_neq c3893
            rw [li_0] at c3893
            refine ⟨fun c3895 => ?_, fun c3896 => ?_⟩
            · replace c3895 := q_neq c3895
              rw [li_1] at c3895
              exact k _
            · replace c3896 := q_eq c3896
              rw [li_1] at c3896
              exact k _
          · replace c3894 := q_eq c3894
            rw [li_0] at c3894
            refine wq_X0_journey h3876 (fun r_16 => ?_)
            exact k _
        · replace c3892 := q_eq c3892
          rw [li_m1] at c3892
          exact k _
      · replace c3883 := q_nle c3883
        rw [li_2] at c3883
        exact k _
theorem wq_X6_farthest_L30 {s2 : Bd} {post : Int32 → Prop} {e101 : Int32 → Int32 → Int32 → Int32 → Int32 → Prop} {R W : Int} (h3897 : bi (R) (W) s2) (ke101 : ∀ (z1 : Int32) (z2 : Int32) (z3 : Int32) (z4 : Int32) (z5 : Int32), 0 ≤ (z5).toInt ∧ (z5).toInt ≤ 40 → 0 ≤ (z1).toInt ∧ (z1).toInt < 40 → e101 z1 z2 z3 z4 z5) : ∀ (n : Nat) (z1 : Int32) (z2 : Int32) (z3 : Int32) (z4 : Int32) (z5 : Int32), 0 ≤ (z5).toInt ∧ (z5).toInt ≤ 40 → 0 ≤ (z1).toInt ∧ (z1).toInt < 40 → 40 - (z5).toInt < (n : Int) → wp_X6_farthest_L30 s2 post e101 n z1 z2 z3 z4 z5 := by
  have := h3897.1
  have := h3897.2.1
  have := h3897.2.2.1
  have := h3897.2.2.2.1
  have := h3897.2.2.2.2.2.2.2.2.2
  intro n
  induction n with
  | zero =>
    intro z1 z2 z3 z4 z5 i3898 i3899 i3900
    exfalso
    omega
  | succ n ih =>
    intro z1 z2 z3 z4 z5 i3898 i3899 i3900
    unfold wp_X6_farthest_L30
    have p3901 : 0 ≤ (z1).toInt ∧ (z1).toInt < 40 := by omega
    refine wq_X0_flapsOf h3897 p3901 (fun r_6 q3902 => ?_)
    refine ⟨fun c3903 => ?_, fun c3904 => ?_⟩
    · replace c3903 := q_le c3903
      have p3905 : 0 ≤ (z5).toInt ∧ (z5).toInt ≤ 40 := by omega
      have p3906 : 0 ≤ (z1).toInt ∧ (z1).toInt < 40 := by omega
      exact ke101 _ _ _ _ _ p3905 p3906
    · replace c3904 := q_nle c3904
      have p3907 : 0 ≤ (z1).toInt ∧ (z1).toInt < 40 := by omega
      refine wq_X0_flapsOnTo h3897 p3907 (fun r_9 => ?_)
      have p3908 : 0 ≤ (z1).toInt ∧ (z1).toInt < 40 := by omega
      refine wq_X0_signOn h3897 p3908 (fun r_11 => ?_)
      refine ⟨fun c3909 => ?_, fun c3910 => ?_⟩
      · replace c3909 := q_le c3909
        have e3911 := tq_addr li_1 z5
        try rw [Int.emod_eq_of_lt (show 0 ≤ (z5).toInt + 1 + 2147483648 by omega) (show (z5).toInt + 1 + 2147483648 < 4294967296 by omega)] at e3911
        have p3912 : 0 ≤ (z5 + 1).toInt ∧ (z5 + 1).toInt ≤ 40 := by omega
        have p3913 : 0 ≤ (z1).toInt ∧ (z1).toInt < 40 := by omega
        have p3914 : 40 - (z5 + 1).toInt < ((n : Nat) : Int) := by (omega)
        exact ih _ _ _ _ _ p3912 p3913 p3914
      · replace c3910 := q_nle c3910
        have p3915 : 0 ≤ (z1).toInt ∧ (z1).toInt < 40 := by omega
        refine wq_X0_nearest h3897 p3915 (fun r_14 q3916 => ?_)
        refine ⟨fun c3917 => ?_, fun c3918 => ?_⟩
        · replace c3917 := q_neq c3917
          have e3919 := tq_addr li_1 z5
          try rw [Int.emod_eq_of_lt (show 0 ≤ (z5).toInt + 1 + 2147483648 by omega) (show (z5).toInt + 1 + 2147483648 < 4294967296 by omega)] at e3919
          have p3920 : 0 ≤ (z5 + 1).toInt ∧ (z5 + 1).toInt ≤ 40 := by omega
          have p3921 : 0 ≤ (z1).toInt ∧ (z1).toInt < 40 := by omega
          have p3922 : 40 - (z5 + 1).toInt < ((n : Nat) : Int) := by (omega)
          exact ih _ _ _ _ _ p3920 p3921 p3922
        · replace c3918 := q_eq c3918
          have e3923 := tq_addr li_1 z5
          try rw [Int.emod_eq_of_lt (show 0 ≤ (z5).toInt + 1 + 2147483648 by omega) (show (z5).toInt + 1 + 2147483648 < 4294967296 by omega)] at e3923
          have p3924 : 0 ≤ (z5 + 1).toInt ∧ (z5 + 1).toInt ≤ 40 := by omega
          have p3925 : 0 ≤ (z1).toInt ∧ (z1).toInt < 40 := by omega
          have p3926 : 40 - (z5 + 1).toInt < ((n : Nat) : Int) := by (omega)
          exact ih _ _ _ _ _ p3924 p3925 p3926
theorem wq_X6_farthest {post : Int32 → Prop} {s2 : Bd} {x1 : Int32} {x2 : Int32} {R W : Int} (h3927 : bi (R) (W) s2) (k : ∀ (r : Int32), post r) : wp_X6_farthest post s2 x1 x2 := by
  unfold wp_X6_farthest
  have := h3927.1
  have := h3927.2.1
  have := h3927.2.2.1
  have := h3927.2.2.2.1
  have := h3927.2.2.2.2.2.2.2.2.2
  refine wq_X0_hasCell h3927 (fun r_1 q3928 => ?_)
  refine ⟨fun c3929 => ?_, fun c3930 => ?_⟩
  · replace c3929 := q_eq c3929
    rw [li_0] at c3929
    exact k _
  · replace c3930 := q_neq c3930
    rw [li_0] at c3930
    refine ⟨fun c3931 => ?_, fun c3932 => ?_⟩
    · replace c3931 := q_lt c3931
      rw [li_0] at c3931
      exact k _
    · replace c3932 := q_nlt c3932
      rw [li_0] at c3932
      refine ⟨fun c3933 => ?_, fun c3934 => ?_⟩
      · replace c3933 := q_le c3933
        rw [li_1] at c3933
        have p3935 : 0 ≤ (0 : Int32).toInt ∧ (0 : Int32).toInt ≤ 40 := by (have := li_0; omega)
        have p3936 : 0 ≤ (x1).toInt ∧ (x1).toInt < 40 := by omega
        obtain ⟨f3937, g3938⟩ := fu_e 50
        have p3939 : 40 - (0 : Int32).toInt < (f3937 : Int) := by (have := li_0; omega)
        refine ⟨f3937, wq_X6_farthest_L30 h3927 (fun z1 z2 z3 z4 z5 q3940 q3941 => ?_) f3937 _ _ _ _ _ p3935 p3936 p3939⟩
        refine ⟨fun c3942 => ?_, fun c3943 => ?_⟩
        · replace c3942 := q_neq c3942
          rw [li_0] at c3942
          exact k _
        · replace c3943 := q_eq c3943
          rw [li_0] at c3943
          exact k _
      · replace c3934 := q_nle c3934
        rw [li_1] at c3934
        exact k _
theorem wq_X6_unlike_L34 {s2 : Bd} {post : Int32 → Prop} {e104 : Int32 → Int32 → Int32 → Int32 → Prop} {R W : Int} (h3944 : bi (R) (W) s2) (ke104 : ∀ (z1 : Int32) (z2 : Int32) (z3 : Int32) (z4 : Int32), 0 ≤ (z1).toInt ∧ (z1).toInt < R ∧ 0 ≤ (z2).toInt ∧ (z2).toInt < R → 0 ≤ (z4).toInt ∧ (z4).toInt ≤ W → e104 z1 z2 z3 z4) : ∀ (n : Nat) (z1 : Int32) (z2 : Int32) (z3 : Int32) (z4 : Int32), 0 ≤ (z1).toInt ∧ (z1).toInt < R ∧ 0 ≤ (z2).toInt ∧ (z2).toInt < R → 0 ≤ (z4).toInt ∧ (z4).toInt ≤ W → W - (z4).toInt < (n : Int) → wp_X6_unlike_L34 s2 post e104 n z1 z2 z3 z4 := by
  have := h3944.1
  have := h3944.2.1
  have := h3944.2.2.1
  have := h3944.2.2.2.1
  have := h3944.2.2.2.2.2.2.2.2.2
  intro n
  induction n with
  | zero =>
    intro z1 z2 z3 z4 i3945 i3946 i3947
    exfalso
    omega
  | succ n ih =>
    intro z1 z2 z3 z4 i3945 i3946 i3947
    unfold wp_X6_unlike_L34
    refine ⟨fun c3948 => ?_, fun c3949 => ?_⟩
    · replace c3948 := q_le c3948
      have p3950 : 0 ≤ (z1).toInt ∧ (z1).toInt < R ∧ 0 ≤ (z2).toInt ∧ (z2).toInt < R := by omega
      have p3951 : 0 ≤ (z4).toInt ∧ (z4).toInt ≤ W := by omega
      exact ke104 _ _ _ _ p3950 p3951
    · replace c3949 := q_nle c3949
      have := rw_l (a := z1) (b := (s2.1 1)) (R := R) (W := W) (by omega) (by omega) (by omega)
      have e3952 := tq_add (z1 * (s2.1 1)) z4
      try rw [Int.emod_eq_of_lt (show 0 ≤ (z1 * (s2.1 1)).toInt + (z4).toInt + 2147483648 by omega) (show (z1 * (s2.1 1)).toInt + (z4).toInt + 2147483648 < 4294967296 by omega)] at e3952
      have p3953 : 0 ≤ ((z1 * (s2.1 1)) + z4).toInt ∧ ((z1 * (s2.1 1)) + z4).toInt < 40 := by omega
      refine wq_X0_wantedSign h3944 p3953 (fun r_9 => ?_)
      have := rw_l (a := z2) (b := (s2.1 1)) (R := R) (W := W) (by omega) (by omega) (by omega)
      have e3954 := tq_add (z2 * (s2.1 1)) z4
      try rw [Int.emod_eq_of_lt (show 0 ≤ (z2 * (s2.1 1)).toInt + (z4).toInt + 2147483648 by omega) (show (z2 * (s2.1 1)).toInt + (z4).toInt + 2147483648 < 4294967296 by omega)] at e3954
      have p3955 : 0 ≤ ((z2 * (s2.1 1)) + z4).toInt ∧ ((z2 * (s2.1 1)) + z4).toInt < 40 := by omega
      refine wq_X0_wantedSign h3944 p3955 (fun r_11 => ?_)
      refine ⟨fun c3956 => ?_, fun c3957 => ?_⟩
      · replace c3956 := q_eq c3956
        have p3958 : 0 ≤ (z1).toInt ∧ (z1).toInt < R ∧ 0 ≤ (z2).toInt ∧ (z2).toInt < R := by omega
        have e3959 := tq_addr li_1 z4
        try rw [Int.emod_eq_of_lt (show 0 ≤ (z4).toInt + 1 + 2147483648 by omega) (show (z4).toInt + 1 + 2147483648 < 4294967296 by omega)] at e3959
        have p3960 : 0 ≤ (z4 + 1).toInt ∧ (z4 + 1).toInt ≤ W := by omega
        have p3961 : W - (z4 + 1).toInt < ((n : Nat) : Int) := by (omega)
        exact ih _ _ _ _ p3958 p3960 p3961
      · replace c3957 := q_neq c3957
        have p3962 : 0 ≤ (z1).toInt ∧ (z1).toInt < R ∧ 0 ≤ (z2).toInt ∧ (z2).toInt < R := by omega
        have e3963 := tq_addr li_1 z4
        try rw [Int.emod_eq_of_lt (show 0 ≤ (z4).toInt + 1 + 2147483648 by omega) (show (z4).toInt + 1 + 2147483648 < 4294967296 by omega)] at e3963
        have p3964 : 0 ≤ (z4 + 1).toInt ∧ (z4 + 1).toInt ≤ W := by omega
        have p3965 : W - (z4 + 1).toInt < ((n : Nat) : Int) := by (omega)
        exact ih _ _ _ _ p3962 p3964 p3965
theorem wq_X6_unlike {post : Int32 → Prop} {s2 : Bd} {x1 : Int32} {x2 : Int32} {R W : Int} (h3966 : bi (R) (W) s2) (k : ∀ (r : Int32), post r) : wp_X6_unlike post s2 x1 x2 := by
  unfold wp_X6_unlike
  have := h3966.1
  have := h3966.2.1
  have := h3966.2.2.1
  have := h3966.2.2.2.1
  have := h3966.2.2.2.2.2.2.2.2.2
  refine wq_X0_hasRow h3966 (fun r_1 q3967 => ?_)
  refine ⟨fun c3968 => ?_, fun c3969 => ?_⟩
  · replace c3968 := q_eq c3968
    rw [li_0] at c3968
    exact k _
  · replace c3969 := q_neq c3969
    rw [li_0] at c3969
    refine wq_X0_hasRow h3966 (fun r_4 q3970 => ?_)
    refine ⟨fun c3971 => ?_, fun c3972 => ?_⟩
    · replace c3971 := q_eq c3971
      rw [li_0] at c3971
      exact k _
    · replace c3972 := q_neq c3972
      rw [li_0] at c3972
      refine ⟨fun c3973 => ?_, fun c3974 => ?_⟩
      · replace c3973 := q_neq c3973
        have p3975 : 0 ≤ (x1).toInt ∧ (x1).toInt < R ∧ 0 ≤ (x2).toInt ∧ (x2).toInt < R := by omega
        have p3976 : 0 ≤ (0 : Int32).toInt ∧ (0 : Int32).toInt ≤ W := by (have := li_0; omega)
        obtain ⟨f3977, g3978⟩ := fu_e 50
        have p3979 : W - (0 : Int32).toInt < (f3977 : Int) := by (have := li_0; omega)
        refine ⟨f3977, wq_X6_unlike_L34 h3966 (fun z1 z2 z3 z4 q3980 q3981 => ?_) f3977 _ _ _ _ p3975 p3976 p3979⟩
        exact k _
      · replace c3974 := q_eq c3974
        exact k _
theorem dv_l {x d : Int32} {k : Int} (hd : d.toInt = k) (hk : 0 < k) (hx : 0 ≤ x.toInt) : (x / d).toInt = x.toInt / k := by
  rw [Int32.toInt_div, bm32, hd, Int.tdiv_eq_ediv_of_nonneg hx]
  have a := Int.ediv_nonneg hx (Int.le_of_lt hk)
  have b := Int.ediv_le_self k hx
  have c := tq_r x
  generalize x.toInt / k = y at a b ⊢
  omega
theorem let_b {x w : Int32} {R W : Int} (hw : w.toInt = W) (hp : 0 ≤ R ∧ R ≤ 6 ∧ 0 ≤ W ∧ W ≤ 10 ∧ R * W ≤ 40) (h : 0 ≤ x.toInt) (h2 : x.toInt < R * W + R - 1 ∧ ¬ (x - x / (w + 1) * (w + 1)).toInt = w.toInt ∨ x.toInt < 0) : 0 ≤ ((x / (w + 1)) * w + (x - x / (w + 1) * (w + 1))).toInt ∧ ((x / (w + 1)) * w + (x - x / (w + 1) * (w + 1))).toInt < 40 := by
  have key : ∀ c : Int32, ∀ C : Int, c.toInt = C → 0 ≤ C → C ≤ 10 → R * C ≤ 40 → x.toInt < R * C + R - 1 ∧ ¬ (x - x / (c + 1) * (c + 1)).toInt = c.toInt ∨ x.toInt < 0 → 0 ≤ ((x / (c + 1)) * c + (x - x / (c + 1) * (c + 1))).toInt ∧ ((x / (c + 1)) * c + (x - x / (c + 1) * (c + 1))).toInt < 40 := by
    intro c C hc h0 h10 h40 hx
    have cs : C = 0 ∨ C = 1 ∨ C = 2 ∨ C = 3 ∨ C = 4 ∨ C = 5 ∨ C = 6 ∨ C = 7 ∨ C = 8 ∨ C = 9 ∨ C = 10 := by omega
    rcases cs with e | e | e | e | e | e | e | e | e | e | e
    · subst e
      have hc2 : c = 0 := Int32.toInt_inj.mp (hc.trans rfl)
      subst hc2
      have d1 : ((0 : Int32) + 1).toInt = 1 := rfl
      have d0 : (0 : Int32).toInt = 0 := rfl
      have q := dv_l (x := x) d1 (by omega) h
      have q1 := nw (tq_mulr d0 (x / ((0 : Int32) + 1))) (by omega)
      have q2 := nw (tq_mulr d1 (x / ((0 : Int32) + 1))) (by omega)
      have q3 := nw (tq_sub x (x / ((0 : Int32) + 1) * ((0 : Int32) + 1))) (by omega)
      have q4 := nw (tq_add (x / ((0 : Int32) + 1) * (0 : Int32)) (x - x / ((0 : Int32) + 1) * ((0 : Int32) + 1))) (by omega)
      omega
    · subst e
      have hc2 : c = 1 := Int32.toInt_inj.mp (hc.trans rfl)
      subst hc2
      have d1 : ((1 : Int32) + 1).toInt = 2 := rfl
      have d0 : (1 : Int32).toInt = 1 := rfl
      have q := dv_l (x := x) d1 (by omega) h
      have q1 := nw (tq_mulr d0 (x / ((1 : Int32) + 1))) (by omega)
      have q2 := nw (tq_mulr d1 (x / ((1 : Int32) + 1))) (by omega)
      have q3 := nw (tq_sub x (x / ((1 : Int32) + 1) * ((1 : Int32) + 1))) (by omega)
      have q4 := nw (tq_add (x / ((1 : Int32) + 1) * (1 : Int32)) (x - x / ((1 : Int32) + 1) * ((1 : Int32) + 1))) (by omega)
      omega
    · subst e
      have hc2 : c = 2 := Int32.toInt_inj.mp (hc.trans rfl)
      subst hc2
      have d1 : ((2 : Int32) + 1).toInt = 3 := rfl
      have d0 : (2 : Int32).toInt = 2 := rfl
      have q := dv_l (x := x) d1 (by omega) h
      have q1 := nw (tq_mulr d0 (x / ((2 : Int32) + 1))) (by omega)
      have q2 := nw (tq_mulr d1 (x / ((2 : Int32) + 1))) (by omega)
      have q3 := nw (tq_sub x (x / ((2 : Int32) + 1) * ((2 : Int32) + 1))) (by omega)
      have q4 := nw (tq_add (x / ((2 : Int32) + 1) * (2 : Int32)) (x - x / ((2 : Int32) + 1) * ((2 : Int32) + 1))) (by omega)
      omega
    · subst e
      have hc2 : c = 3 := Int32.toInt_inj.mp (hc.trans rfl)
      subst hc2
      have d1 : ((3 : Int32) + 1).toInt = 4 := rfl
      have d0 : (3 : Int32).toInt = 3 := rfl
      have q := dv_l (x := x) d1 (by omega) h
      have q1 := nw (tq_mulr d0 (x / ((3 : Int32) + 1))) (by omega)
      have q2 := nw (tq_mulr d1 (x / ((3 : Int32) + 1))) (by omega)
      have q3 := nw (tq_sub x (x / ((3 : Int32) + 1) * ((3 : Int32) + 1))) (by omega)
      have q4 := nw (tq_add (x / ((3 : Int32) + 1) * (3 : Int32)) (x - x / ((3 : Int32) + 1) * ((3 : Int32) + 1))) (by omega)
      omega
    · subst e
      have hc2 : c = 4 := Int32.toInt_inj.mp (hc.trans rfl)
      subst hc2
      have d1 : ((4 : Int32) + 1).toInt = 5 := rfl
      have d0 : (4 : Int32).toInt = 4 := rfl
      have q := dv_l (x := x) d1 (by omega) h
      have q1 := nw (tq_mulr d0 (x / ((4 : Int32) + 1))) (by omega)
      have q2 := nw (tq_mulr d1 (x / ((4 : Int32) + 1))) (by omega)
      have q3 := nw (tq_sub x (x / ((4 : Int32) + 1) * ((4 : Int32) + 1))) (by omega)
      have q4 := nw (tq_add (x / ((4 : Int32) + 1) * (4 : Int32)) (x - x / ((4 : Int32) + 1) * ((4 : Int32) + 1))) (by omega)
      omega
    · subst e
      have hc2 : c = 5 := Int32.toInt_inj.mp (hc.trans rfl)
      subst hc2
      have d1 : ((5 : Int32) + 1).toInt = 6 := rfl
      have d0 : (5 : Int32).toInt = 5 := rfl
      have q := dv_l (x := x) d1 (by omega) h
      have q1 := nw (tq_mulr d0 (x / ((5 : Int32) + 1))) (by omega)
      have q2 := nw (tq_mulr d1 (x / ((5 : Int32) + 1))) (by omega)
      have q3 := nw (tq_sub x (x / ((5 : Int32) + 1) * ((5 : Int32) + 1))) (by omega)
      have q4 := nw (tq_add (x / ((5 : Int32) + 1) * (5 : Int32)) (x - x / ((5 : Int32) + 1) * ((5 : Int32) + 1))) (by omega)
      omega
    · subst e
      have hc2 : c = 6 := Int32.toInt_inj.mp (hc.trans rfl)
      subst hc2
      have d1 : ((6 : Int32) + 1).toInt = 7 := rfl
      have d0 : (6 : Int32).toInt = 6 := rfl
      have q := dv_l (x := x) d1 (by omega) h
      have q1 := nw (tq_mulr d0 (x / ((6 : Int32) + 1))) (by omega)
      have q2 := nw (tq_mulr d1 (x / ((6 : Int32) + 1))) (by omega)
      have q3 := nw (tq_sub x (x / ((6 : Int32) + 1) * ((6 : Int32) + 1))) (by omega)
      have q4 := nw (tq_add (x / ((6 : Int32) + 1) * (6 : Int32)) (x - x / ((6 : Int32) + 1) * ((6 : Int32) + 1))) (by omega)
      omega
    · subst e
      have hc2 : c = 7 := Int32.toInt_inj.mp (hc.trans rfl)
      subst hc2
      have d1 : ((7 : Int32) + 1).toInt = 8 := rfl
      have d0 : (7 : Int32).toInt = 7 := rfl
      have q := dv_l (x := x) d1 (by omega) h
      have q1 := nw (tq_mulr d0 (x / ((7 : Int32) + 1))) (by omega)
      have q2 := nw (tq_mulr d1 (x / ((7 : Int32) + 1))) (by omega)
      have q3 := nw (tq_sub x (x / ((7 : Int32) + 1) * ((7 : Int32) + 1))) (by omega)
      have q4 := nw (tq_add (x / ((7 : Int32) + 1) * (7 : Int32)) (x - x / ((7 : Int32) + 1) * ((7 : Int32) + 1))) (by omega)
      omega
    · subst e
      have hc2 : c = 8 := Int32.toInt_inj.mp (hc.trans rfl)
      subst hc2
      have d1 : ((8 : Int32) + 1).toInt = 9 := rfl
      have d0 : (8 : Int32).toInt = 8 := rfl
      have q := dv_l (x := x) d1 (by omega) h
      have q1 := nw (tq_mulr d0 (x / ((8 : Int32) + 1))) (by omega)
      have q2 := nw (tq_mulr d1 (x / ((8 : Int32) + 1))) (by omega)
      have q3 := nw (tq_sub x (x / ((8 : Int32) + 1) * ((8 : Int32) + 1))) (by omega)
      have q4 := nw (tq_add (x / ((8 : Int32) + 1) * (8 : Int32)) (x - x / ((8 : Int32) + 1) * ((8 : Int32) + 1))) (by omega)
      omega
    · subst e
      have hc2 : c = 9 := Int32.toInt_inj.mp (hc.trans rfl)
      subst hc2
      have d1 : ((9 : Int32) + 1).toInt = 10 := rfl
      have d0 : (9 : Int32).toInt = 9 := rfl
      have q := dv_l (x := x) d1 (by omega) h
      have q1 := nw (tq_mulr d0 (x / ((9 : Int32) + 1))) (by omega)
      have q2 := nw (tq_mulr d1 (x / ((9 : Int32) + 1))) (by omega)
      have q3 := nw (tq_sub x (x / ((9 : Int32) + 1) * ((9 : Int32) + 1))) (by omega)
      have q4 := nw (tq_add (x / ((9 : Int32) + 1) * (9 : Int32)) (x - x / ((9 : Int32) + 1) * ((9 : Int32) + 1))) (by omega)
      omega
    · subst e
      have hc2 : c = 10 := Int32.toInt_inj.mp (hc.trans rfl)
      subst hc2
      have d1 : ((10 : Int32) + 1).toInt = 11 := rfl
      have d0 : (10 : Int32).toInt = 10 := rfl
      have q := dv_l (x := x) d1 (by omega) h
      have q1 := nw (tq_mulr d0 (x / ((10 : Int32) + 1))) (by omega)
      have q2 := nw (tq_mulr d1 (x / ((10 : Int32) + 1))) (by omega)
      have q3 := nw (tq_sub x (x / ((10 : Int32) + 1) * ((10 : Int32) + 1))) (by omega)
      have q4 := nw (tq_add (x / ((10 : Int32) + 1) * (10 : Int32)) (x - x / ((10 : Int32) + 1) * ((10 : Int32) + 1))) (by omega)
      omega
  exact key w W hw hp.2.2.1 hp.2.2.2.1 hp.2.2.2.2 h2
theorem wq_X6_letter {post : Int32 → Prop} {s2 : Bd} {x1 : Int32} {x2 : Int32} {R W : Int} (h3982 : bi (R) (W) s2) (k : ∀ (r : Int32), post r) : wp_X6_letter post s2 x1 x2 := by
  unfold wp_X6_letter
  have := h3982.1
  have := h3982.2.1
  have := h3982.2.2.1
  have := h3982.2.2.2.1
  have := h3982.2.2.2.2.2.2.2.2.2
  refine ⟨fun c3983 => ?_, fun c3984 => ?_⟩
  · replace c3983 := q_lt c3983
    rw [li_0] at c3983
    exact k _
  · replace c3984 := q_nlt c3984
    rw [li_0] at c3984
    refine ⟨fun c3985 => ?_, fun c3986 => ?_⟩
    · replace c3985 := q_lt c3985
      rw [li_1] at c3985
      exact k _
    · replace c3986 := q_nlt c3986
      rw [li_1] at c3986
      refine ⟨fun c3987 => ?_, fun c3988 => ?_⟩
      · replace c3987 := q_le c3987
        rw [li_m1] at c3987
        refine wq_X0_isThere h3982 (fun r_4 q3989 => ?_)
        refine ⟨fun c3990 => ?_, fun c3991 => ?_⟩
        · replace c3990 := q_eq c3990
          rw [li_0] at c3990
          refine ⟨fun c3992 => ?_, fun c3993 => ?_⟩
          · replace c3992 := q_neq c3992
            rw [li_m1] at c3992
            refine ⟨fun c3994 => ?_, fun c3995 => ?_⟩
            · replace c3994 := q_lt c3994
              rw [li_0] at c3994
              have e3996 := tq_addr li_1 (s2.1 1)
              try rw [Int.emod_eq_of_lt (show 0 ≤ (s2.1 1).toInt + 1 + 2147483648 by omega) (show (s2.1 1).toInt + 1 + 2147483648 < 4294967296 by omega)] at e3996
              refine ⟨(z_ne (by have := li_0; omega)), ?_⟩
              refine ⟨fun c3997 => ?_, fun c3998 => ?_⟩
              · replace c3997 := q_neq c3997
                have e3999 := tq_sub x2 ((x2 / ((s2.1 1) + 1)) * ((s2.1 1) + 1))
                try rw [Int.emod_eq_of_lt (show 0 ≤ (x2).toInt - ((x2 / ((s2.1 1) + 1)) * ((s2.1 1) + 1)).toInt + 2147483648 by omega) (show (x2).toInt - ((x2 / ((s2.1 1) + 1)) * ((s2.1 1) + 1)).toInt + 2147483648 < 4294967296 by omega)] at e3999
                refine ⟨(z_ne (by have := li_0; omega)), ?_⟩
                refine ⟨fun c4000 => ?_, fun c4001 => ?_⟩
                · replace c4000 := q_neq c4000
                  rw [li_0] at c4000
                  have e4002 := tq_add ((x2 / ((s2.1 1) + 1)) * (s2.1 1)) (x2 - ((x2 / ((s2.1 1) + 1)) * ((s2.1 1) + 1)))
                  try rw [Int.emod_eq_of_lt (show 0 ≤ ((x2 / ((s2.1 1) + 1)) * (s2.1 1)).toInt + (x2 - ((x2 / ((s2.1 1) + 1)) * ((s2.1 1) + 1))).toInt + 2147483648 by omega) (show ((x2 / ((s2.1 1) + 1)) * (s2.1 1)).toInt + (x2 - ((x2 / ((s2.1 1) + 1)) * ((s2.1 1) + 1))).toInt + 2147483648 < 4294967296 by omega)] at e4002
                  have := let_b (x := x2) (w := s2.1 1) (R := R) (W := W) (by omega) (by omega) (by omega) (by omega)
                  have v4003 : vp_in (((x2 / ((s2.1 1) + 1)) * (s2.1 1)) + (x2 - ((x2 / ((s2.1 1) + 1)) * ((s2.1 1) + 1)))) 40 := vi (by omega) (by omega)
                  refine ⟨v4003, ?_⟩
                  have p4004 : 0 ≤ (((x2 / ((s2.1 1) + 1)) * (s2.1 1)) + (x2 - ((x2 / ((s2.1 1) + 1)) * ((s2.1 1) + 1)))).toInt ∧ (((x2 / ((s2.1 1) + 1)) * (s2.1 1)) + (x2 - ((x2 / ((s2.1 1) + 1)) * ((s2.1 1) + 1)))).toInt < 40 := by omega
                  refine wq_X0_signOn h3982 p4004 (fun r_14 => ?_)
                  exact k _
                · replace c4001 := q_eq c4001
                  rw [li_0] at c4001
                  have e4005 := tq_add ((x2 / ((s2.1 1) + 1)) * (s2.1 1)) (x2 - ((x2 / ((s2.1 1) + 1)) * ((s2.1 1) + 1)))
                  try rw [Int.emod_eq_of_lt (show 0 ≤ ((x2 / ((s2.1 1) + 1)) * (s2.1 1)).toInt + (x2 - ((x2 / ((s2.1 1) + 1)) * ((s2.1 1) + 1))).toInt + 2147483648 by omega) (show ((x2 / ((s2.1 1) + 1)) * (s2.1 1)).toInt + (x2 - ((x2 / ((s2.1 1) + 1)) * ((s2.1 1) + 1))).toInt + 2147483648 < 4294967296 by omega)] at e4005
                  have := let_b (x := x2) (w := s2.1 1) (R := R) (W := W) (by omega) (by omega) (by omega) (by omega)
                  have v4006 : vp_in (((x2 / ((s2.1 1) + 1)) * (s2.1 1)) + (x2 - ((x2 / ((s2.1 1) + 1)) * ((s2.1 1) + 1)))) 40 := vi (by omega) (by omega)
                  refine ⟨v4006, ?_⟩
                  have p4007 : 0 ≤ (((x2 / ((s2.1 1) + 1)) * (s2.1 1)) + (x2 - ((x2 / ((s2.1 1) + 1)) * ((s2.1 1) + 1)))).toInt ∧ (((x2 / ((s2.1 1) + 1)) * (s2.1 1)) + (x2 - ((x2 / ((s2.1 1) + 1)) * ((s2.1 1) + 1)))).toInt < 40 := by omega
                  refine wq_X0_signOn h3982 p4007 (fun r_17 => ?_)
                  exact k _
              · replace c3998 := q_eq c3998
                have e4008 := tq_sub x2 ((x2 / ((s2.1 1) + 1)) * ((s2.1 1) + 1))
                try rw [Int.emod_eq_of_lt (show 0 ≤ (x2).toInt - ((x2 / ((s2.1 1) + 1)) * ((s2.1 1) + 1)).toInt + 2147483648 by omega) (show (x2).toInt - ((x2 / ((s2.1 1) + 1)) * ((s2.1 1) + 1)).toInt + 2147483648 < 4294967296 by omega)] at e4008
                exact k _
            · replace c3995 := q_nlt c3995
              rw [li_0] at c3995
              exact k _
          · replace c3993 := q_eq c3993
            rw [li_m1] at c3993
            exact k _
        · replace c3991 := q_neq c3991
          rw [li_0] at c3991
          refine wq_X0_cells h3982 (fun r_19 q4009 => ?_)
          refine ⟨fun c4010 => ?_, fun c4011 => ?_⟩
          · replace c4010 := q_neq c4010
            rw [li_m1] at c4010
            refine ⟨fun c4012 => ?_, fun c4013 => ?_⟩
            · replace c4012 := q_lt c4012
              have e4014 := tq_add r_19 (s2.1 0)
              try rw [Int.emod_eq_of_lt (show 0 ≤ (r_19).toInt + (s2.1 0).toInt + 2147483648 by omega) (show (r_19).toInt + (s2.1 0).toInt + 2147483648 < 4294967296 by omega)] at e4014
              have e4015 := tq_subr li_1 (r_19 + (s2.1 0))
              try rw [Int.emod_eq_of_lt (show 0 ≤ (r_19 + (s2.1 0)).toInt - 1 + 2147483648 by omega) (show (r_19 + (s2.1 0)).toInt - 1 + 2147483648 < 4294967296 by omega)] at e4015
              have e4016 := tq_addr li_1 (s2.1 1)
              try rw [Int.emod_eq_of_lt (show 0 ≤ (s2.1 1).toInt + 1 + 2147483648 by omega) (show (s2.1 1).toInt + 1 + 2147483648 < 4294967296 by omega)] at e4016
              refine ⟨(z_ne (by have := li_0; omega)), ?_⟩
              refine ⟨fun c4017 => ?_, fun c4018 => ?_⟩
              · replace c4017 := q_neq c4017
                have e4019 := tq_sub x2 ((x2 / ((s2.1 1) + 1)) * ((s2.1 1) + 1))
                try rw [Int.emod_eq_of_lt (show 0 ≤ (x2).toInt - ((x2 / ((s2.1 1) + 1)) * ((s2.1 1) + 1)).toInt + 2147483648 by omega) (show (x2).toInt - ((x2 / ((s2.1 1) + 1)) * ((s2.1 1) + 1)).toInt + 2147483648 < 4294967296 by omega)] at e4019
                refine ⟨(z_ne (by have := li_0; omega)), ?_⟩
                refine ⟨fun c4020 => ?_, fun c4021 => ?_⟩
                · replace c4020 := q_neq c4020
                  rw [li_0] at c4020
                  have e4022 := tq_add ((x2 / ((s2.1 1) + 1)) * (s2.1 1)) (x2 - ((x2 / ((s2.1 1) + 1)) * ((s2.1 1) + 1)))
                  try rw [Int.emod_eq_of_lt (show 0 ≤ ((x2 / ((s2.1 1) + 1)) * (s2.1 1)).toInt + (x2 - ((x2 / ((s2.1 1) + 1)) * ((s2.1 1) + 1))).toInt + 2147483648 by omega) (show ((x2 / ((s2.1 1) + 1)) * (s2.1 1)).toInt + (x2 - ((x2 / ((s2.1 1) + 1)) * ((s2.1 1) + 1))).toInt + 2147483648 < 4294967296 by omega)] at e4022
                  have := let_b (x := x2) (w := s2.1 1) (R := R) (W := W) (by omega) (by omega) (by omega) (by omega)
                  have v4023 : vp_in (((x2 / ((s2.1 1) + 1)) * (s2.1 1)) + (x2 - ((x2 / ((s2.1 1) + 1)) * ((s2.1 1) + 1)))) 40 := vi (by omega) (by omega)
                  refine ⟨v4023, ?_⟩
                  have p4024 : 0 ≤ (((x2 / ((s2.1 1) + 1)) * (s2.1 1)) + (x2 - ((x2 / ((s2.1 1) + 1)) * ((s2.1 1) + 1)))).toInt ∧ (((x2 / ((s2.1 1) + 1)) * (s2.1 1)) + (x2 - ((x2 / ((s2.1 1) + 1)) * ((s2.1 1) + 1)))).toInt < 40 := by omega
                  refine wq_X0_signOn h3982 p4024 (fun r_28 => ?_)
                  exact k _
                · replace c4021 := q_eq c4021
                  rw [li_0] at c4021
                  have e4025 := tq_add ((x2 / ((s2.1 1) + 1)) * (s2.1 1)) (x2 - ((x2 / ((s2.1 1) + 1)) * ((s2.1 1) + 1)))
                  try rw [Int.emod_eq_of_lt (show 0 ≤ ((x2 / ((s2.1 1) + 1)) * (s2.1 1)).toInt + (x2 - ((x2 / ((s2.1 1) + 1)) * ((s2.1 1) + 1))).toInt + 2147483648 by omega) (show ((x2 / ((s2.1 1) + 1)) * (s2.1 1)).toInt + (x2 - ((x2 / ((s2.1 1) + 1)) * ((s2.1 1) + 1))).toInt + 2147483648 < 4294967296 by omega)] at e4025
                  have := let_b (x := x2) (w := s2.1 1) (R := R) (W := W) (by omega) (by omega) (by omega) (by omega)
                  have v4026 : vp_in (((x2 / ((s2.1 1) + 1)) * (s2.1 1)) + (x2 - ((x2 / ((s2.1 1) + 1)) * ((s2.1 1) + 1)))) 40 := vi (by omega) (by omega)
                  refine ⟨v4026, ?_⟩
                  have p4027 : 0 ≤ (((x2 / ((s2.1 1) + 1)) * (s2.1 1)) + (x2 - ((x2 / ((s2.1 1) + 1)) * ((s2.1 1) + 1)))).toInt ∧ (((x2 / ((s2.1 1) + 1)) * (s2.1 1)) + (x2 - ((x2 / ((s2.1 1) + 1)) * ((s2.1 1) + 1)))).toInt < 40 := by omega
                  refine wq_X0_signOn h3982 p4027 (fun r_31 => ?_)
                  exact k _
              · replace c4018 := q_eq c4018
                have e4028 := tq_sub x2 ((x2 / ((s2.1 1) + 1)) * ((s2.1 1) + 1))
                try rw [Int.emod_eq_of_lt (show 0 ≤ (x2).toInt - ((x2 / ((s2.1 1) + 1)) * ((s2.1 1) + 1)).toInt + 2147483648 by omega) (show (x2).toInt - ((x2 / ((s2.1 1) + 1)) * ((s2.1 1) + 1)).toInt + 2147483648 < 4294967296 by omega)] at e4028
                exact k _
            · replace c4013 := q_nlt c4013
              have e4029 := tq_add r_19 (s2.1 0)
              try rw [Int.emod_eq_of_lt (show 0 ≤ (r_19).toInt + (s2.1 0).toInt + 2147483648 by omega) (show (r_19).toInt + (s2.1 0).toInt + 2147483648 < 4294967296 by omega)] at e4029
              have e4030 := tq_subr li_1 (r_19 + (s2.1 0))
              try rw [Int.emod_eq_of_lt (show 0 ≤ (r_19 + (s2.1 0)).toInt - 1 + 2147483648 by omega) (show (r_19 + (s2.1 0)).toInt - 1 + 2147483648 < 4294967296 by omega)] at e4030
              exact k _
          · replace c4011 := q_eq c4011
            rw [li_m1] at c4011
            exact k _
      · replace c3988 := q_nle c3988
        rw [li_m1] at c3988
        exact k _
