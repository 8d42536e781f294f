theorem wq_X7_signsOf_L6 {s0 : Md} {post : Int32 → Prop} {e57 : Int32 → Int32 → Int32 → Int32 → Prop} {N R W D : Int} (h100791 : mb (N) (R) (W) (D) s0) (ke57 : ∀ (z1 : Int32) (z2 : Int32) (z3 : Int32) (z4 : Int32), 0 ≤ (z1).toInt ∧ (z1).toInt < D → 32 ≤ (z4).toInt ∧ (z4).toInt ≤ 127 → e57 z1 z2 z3 z4) : ∀ (n : Nat) (z1 : Int32) (z2 : Int32) (z3 : Int32) (z4 : Int32), 0 ≤ (z1).toInt ∧ (z1).toInt < D → 32 ≤ (z4).toInt ∧ (z4).toInt ≤ 127 → 127 - (z4).toInt < (n : Int) → wp_X7_signsOf_L6 s0 post e57 n z1 z2 z3 z4 := by
  have := h100791.1
  have := h100791.2.1
  have := h100791.2.2.1
  have := h100791.2.2.2.1
  intro n
  induction n with
  | zero =>
    intro z1 z2 z3 z4 i100792 i100793 i100794
    exfalso
    omega
  | succ n ih =>
    intro z1 z2 z3 z4 i100792 i100793 i100794
    unfold wp_X7_signsOf_L6
    refine ⟨fun c100795 => ?_, fun c100796 => ?_⟩
    · replace c100795 := q_le c100795
      rw [li_127] at c100795
      have p100797 : 0 ≤ (z1).toInt ∧ (z1).toInt < D := by omega
      have p100798 : 32 ≤ (z4).toInt ∧ (z4).toInt ≤ 127 := by omega
      exact ke57 _ _ _ _ p100797 p100798
    · replace c100796 := q_nle c100796
      rw [li_127] at c100796
      have p100799 : 0 ≤ (z1).toInt ∧ (z1).toInt < D := by omega
      refine wq_X7_manyWith h100791 p100799 (fun r_2 => ?_)
      refine ⟨fun c100800 => ?_, fun c100801 => ?_⟩
      · replace c100800 := q_neq c100800
        rw [li_0] at c100800
        refine ⟨fun c100802 => ?_, fun c100803 => ?_⟩
        · replace c100802 := q_le c100802
          have p100804 : 0 ≤ (z1).toInt ∧ (z1).toInt < D := by omega
          have e100805 := tq_addr li_1 z4
          try rw [Int.emod_eq_of_lt (show 0 ≤ (z4).toInt + 1 + 2147483648 by omega) (show (z4).toInt + 1 + 2147483648 < 4294967296 by omega)] at e100805
          have p100806 : 32 ≤ (z4 + 1).toInt ∧ (z4 + 1).toInt ≤ 127 := by omega
          have p100807 : 127 - (z4 + 1).toInt < ((n : Nat) : Int) := by (omega)
          exact ih _ _ _ _ p100804 p100806 p100807
        · replace c100803 := q_nle c100803
          have p100808 : 0 ≤ (z1).toInt ∧ (z1).toInt < D := by omega
          have e100809 := tq_addr li_1 z4
          try rw [Int.emod_eq_of_lt (show 0 ≤ (z4).toInt + 1 + 2147483648 by omega) (show (z4).toInt + 1 + 2147483648 < 4294967296 by omega)] at e100809
          have p100810 : 32 ≤ (z4 + 1).toInt ∧ (z4 + 1).toInt ≤ 127 := by omega
          have p100811 : 127 - (z4 + 1).toInt < ((n : Nat) : Int) := by (omega)
          exact ih _ _ _ _ p100808 p100810 p100811
      · replace c100801 := q_eq c100801
        rw [li_0] at c100801
        refine ⟨fun c100812 => ?_, fun c100813 => ?_⟩
        · replace c100812 := q_le c100812
          rw [li_0] at c100812
          have p100814 : 0 ≤ (z1).toInt ∧ (z1).toInt < D := by omega
          have e100815 := tq_addr li_1 z4
          try rw [Int.emod_eq_of_lt (show 0 ≤ (z4).toInt + 1 + 2147483648 by omega) (show (z4).toInt + 1 + 2147483648 < 4294967296 by omega)] at e100815
          have p100816 : 32 ≤ (z4 + 1).toInt ∧ (z4 + 1).toInt ≤ 127 := by omega
          have p100817 : 127 - (z4 + 1).toInt < ((n : Nat) : Int) := by (omega)
          exact ih _ _ _ _ p100814 p100816 p100817
        · replace c100813 := q_nle c100813
          rw [li_0] at c100813
          have p100818 : 0 ≤ (z1).toInt ∧ (z1).toInt < D := by omega
          have e100819 := tq_addr li_1 z4
          try rw [Int.emod_eq_of_lt (show 0 ≤ (z4).toInt + 1 + 2147483648 by omega) (show (z4).toInt + 1 + 2147483648 < 4294967296 by omega)] at e100819
          have p100820 : 32 ≤ (z4 + 1).toInt ∧ (z4 + 1).toInt ≤ 127 := by omega
          have p100821 : 127 - (z4 + 1).toInt < ((n : Nat) : Int) := by (omega)
          exact ih _ _ _ _ p100818 p100820 p100821
theorem wq_X7_signsOf {post : Int32 → Prop} {s0 : Md} {x1 : Int32} {x2 : Int32} {N R W D : Int} (h100822 : mb (N) (R) (W) (D) s0) (h100823 : 0 ≤ (x1).toInt ∧ (x1).toInt < D) (k : ∀ (r : Int32), post r) : wp_X7_signsOf post s0 x1 x2 := by
  unfold wp_X7_signsOf
  have := h100822.1
  have := h100822.2.1
  have := h100822.2.2.1
  have := h100822.2.2.2.1
  have p100824 : 0 ≤ (x1).toInt ∧ (x1).toInt < D := by omega
  have p100825 : 32 ≤ (32 : Int32).toInt ∧ (32 : Int32).toInt ≤ 127 := by (have := li_32; omega)
  obtain ⟨f100826, g100827⟩ := fu_e 200
  have p100828 : 127 - (32 : Int32).toInt < (f100826 : Int) := by (have := li_32; omega)
  refine ⟨f100826, wq_X7_signsOf_L6 h100822 (fun z1 z2 z3 z4 q100829 q100830 => ?_) f100826 _ _ _ _ p100824 p100825 p100828⟩
  exact k _
theorem wq_X7_drum {post : Int32 → Prop} {s0 : Md} {x1 : Int32} {x2 : Int32} {N R W D : Int} (h100831 : mb (N) (R) (W) (D) s0) (k : ∀ (r : Int32), post r) : wp_X7_drum post s0 x1 x2 := by
  unfold wp_X7_drum
  have := h100831.1
  have := h100831.2.1
  have := h100831.2.2.1
  have := h100831.2.2.2.1
  refine wq_X7_isDrum h100831 (fun r_1 q100832 => ?_)
  refine ⟨fun c100833 => ?_, fun c100834 => ?_⟩
  · replace c100833 := q_neq c100833
    rw [li_0] at c100833
    refine ⟨fun c100835 => ?_, fun c100836 => ?_⟩
    · replace c100835 := q_eq c100835
      rw [li_0] at c100835
      have p100837 : 0 ≤ (x1).toInt ∧ (x1).toInt < 4 := by omega
      refine wq_X7_currentOf p100837 (fun r_5 => ?_)
      exact k _
    · replace c100836 := q_neq c100836
      rw [li_0] at c100836
      refine ⟨fun c100838 => ?_, fun c100839 => ?_⟩
      · replace c100838 := q_eq c100838
        rw [li_1] at c100838
        have p100840 : 0 ≤ (x1).toInt ∧ (x1).toInt < 4 := by omega
        refine wq_X7_flapsOf h100831 p100840 (fun r_8 q100841 => ?_)
        exact k _
      · replace c100839 := q_neq c100839
        rw [li_1] at c100839
        refine ⟨fun c100842 => ?_, fun c100843 => ?_⟩
        · replace c100842 := q_eq c100842
          rw [li_2] at c100842
          refine wq_X7_cellsWith h100831 (fun r_11 => ?_)
          exact k _
        · replace c100843 := q_neq c100843
          rw [li_2] at c100843
          refine ⟨fun c100844 => ?_, fun c100845 => ?_⟩
          · replace c100844 := q_eq c100844
            rw [li_3] at c100844
            have p100846 : 0 ≤ (x1).toInt ∧ (x1).toInt < D := by omega
            refine wq_X7_signsOf h100831 p100846 (fun r_14 => ?_)
            exact k _
          · replace c100845 := q_neq c100845
            rw [li_3] at c100845
            refine ⟨fun c100847 => ?_, fun c100848 => ?_⟩
            · replace c100847 := q_eq c100847
              rw [li_4] at c100847
              have p100849 : 0 ≤ (x1).toInt ∧ (x1).toInt < D := by omega
              refine wq_X7_signsOf h100831 p100849 (fun r_17 => ?_)
              exact k _
            · replace c100848 := q_neq c100848
              rw [li_4] at c100848
              exact k _
  · replace c100834 := q_eq c100834
    rw [li_0] at c100834
    exact k _
theorem wq_X7_sign {post : Int32 → Prop} {s0 : Md} {x1 : Int32} {x2 : Int32} {N R W D : Int} (h100850 : mb (N) (R) (W) (D) s0) (k : ∀ (r : Int32), post r) : wp_X7_sign post s0 x1 x2 := by
  unfold wp_X7_sign
  have := h100850.1
  have := h100850.2.1
  have := h100850.2.2.1
  have := h100850.2.2.2.1
  refine wq_X7_isDrum h100850 (fun r_1 q100851 => ?_)
  refine ⟨fun c100852 => ?_, fun c100853 => ?_⟩
  · replace c100852 := q_eq c100852
    rw [li_0] at c100852
    exact k _
  · replace c100853 := q_neq c100853
    rw [li_0] at c100853
    have p100854 : 0 ≤ (x1).toInt ∧ (x1).toInt < 4 := by omega
    refine wq_X7_flapsOf h100850 p100854 (fun r_4 q100855 => ?_)
    refine wq_X7_in (fun r_6 q100856 => ?_)
    try simp only [lj_0] at q100856
    have := tq_64 x2
    have e100857 := tq_subr li_1 r_4
    try rw [Int.emod_eq_of_lt (show 0 ≤ (r_4).toInt - 1 + 2147483648 by omega) (show (r_4).toInt - 1 + 2147483648 < 4294967296 by omega)] at e100857
    have := tq_64 (r_4 - 1)
    refine ⟨fun c100858 => ?_, fun c100859 => ?_⟩
    · replace c100858 := q_eq c100858
      rw [li_0] at c100858
      exact k _
    · replace c100859 := q_neq c100859
      rw [li_0] at c100859
      have p100860 : 0 ≤ (x1).toInt ∧ (x1).toInt < 4 := by omega
      have p100861 : 0 ≤ (x2).toInt ∧ (x2).toInt < 40 := by omega
      refine wq_X7_signOf p100860 p100861 (fun r_9 => ?_)
      exact k _
theorem wq_X7_signAt {post : Int32 → Prop} {s0 : Md} {x1 : Int32} {x2 : Int32} {N R W D : Int} (h100862 : mb (N) (R) (W) (D) s0) (h100863 : 0 ≤ (x1).toInt ∧ (x1).toInt < 40) (h100864 : 0 < D) (h100865 : 0 ≤ (x2).toInt ∧ (x2).toInt ≤ 2) (k : ∀ (r : Int32), post r) : wp_X7_signAt post s0 x1 x2 := by
  unfold wp_X7_signAt
  have := h100862.1
  have := h100862.2.1
  have := h100862.2.2.1
  have := h100862.2.2.2.1
  have p100866 : 0 ≤ (x1).toInt ∧ (x1).toInt < 40 := by omega
  refine wq_X7_of_0 h100862 p100866 (fun r_1 q100867 q100868 => ?_)
  have p100869 : 0 ≤ (x1).toInt ∧ (x1).toInt < 40 := by omega
  have p100870 : 0 < D := by omega
  have e100871 := tq_addc li_1 x2
  try rw [Int.emod_eq_of_lt (show 0 ≤ 1 + (x2).toInt + 2147483648 by omega) (show 1 + (x2).toInt + 2147483648 < 4294967296 by omega)] at e100871
  have p100872 : 1 ≤ (1 + x2).toInt ∧ (1 + x2).toInt ≤ 3 := by omega
  refine wq_X7_of_w h100862 p100869 p100870 p100872 (fun r_3 q100873 => ?_)
  have p100874 : 0 ≤ (r_1).toInt ∧ (r_1).toInt < 4 := by omega
  have p100875 : 0 ≤ (r_3).toInt ∧ (r_3).toInt < 40 := by omega
  refine wq_X7_signOf p100874 p100875 (fun r_5 => ?_)
  exact k _
theorem wq_X7_at {post : Int32 → Prop} {s0 : Md} {x1 : Int32} {x2 : Int32} {x3 : Int32} {N R W D : Int} (h100876 : mb (N) (R) (W) (D) s0) (h100877 : R ≤ 0 ∨ 0 < D) (k : ∀ (r : Int32), post r) : wp_X7_at post s0 x1 x2 x3 := by
  unfold wp_X7_at
  have := h100876.1
  have := h100876.2.1
  have := h100876.2.2.1
  have := h100876.2.2.2.1
  refine wq_X7_isRow h100876 (fun r_1 q100878 => ?_)
  refine ⟨fun c100879 => ?_, fun c100880 => ?_⟩
  · replace c100879 := q_eq c100879
    rw [li_0] at c100879
    exact k _
  · replace c100880 := q_neq c100880
    rw [li_0] at c100880
    refine wq_X7_wide h100876 (fun r_4 q100881 => ?_)
    refine wq_X7_in (fun r_6 q100882 => ?_)
    try simp only [lj_0] at q100882
    have := tq_64 x2
    have e100883 := tq_subr li_1 r_4
    try rw [Int.emod_eq_of_lt (show 0 ≤ (r_4).toInt - 1 + 2147483648 by omega) (show (r_4).toInt - 1 + 2147483648 < 4294967296 by omega)] at e100883
    have := tq_64 (r_4 - 1)
    refine ⟨fun c100884 => ?_, fun c100885 => ?_⟩
    · replace c100884 := q_eq c100884
      rw [li_0] at c100884
      exact k _
    · replace c100885 := q_neq c100885
      rw [li_0] at c100885
      refine wq_X7_in (fun r_9 q100886 => ?_)
      try simp only [lj_0, lj_2] at q100886
      have := tq_64 x3
      refine ⟨fun c100887 => ?_, fun c100888 => ?_⟩
      · replace c100887 := q_eq c100887
        rw [li_0] at c100887
        exact k _
      · replace c100888 := q_neq c100888
        rw [li_0] at c100888
        refine wq_X7_wide h100876 (fun r_12 q100889 => ?_)
        have := rw_r (a := x1) (b := r_12) (R := R) (W := W) (by omega) (by omega) (by omega)
        have e100890 := tq_add (r_12 * x1) x2
        try rw [Int.emod_eq_of_lt (show 0 ≤ (r_12 * x1).toInt + (x2).toInt + 2147483648 by omega) (show (r_12 * x1).toInt + (x2).toInt + 2147483648 < 4294967296 by omega)] at e100890
        have p100891 : 0 ≤ ((r_12 * x1) + x2).toInt ∧ ((r_12 * x1) + x2).toInt < 40 := by omega
        have p100892 : 0 < D := by omega
        have p100893 : 0 ≤ (x3).toInt ∧ (x3).toInt ≤ 2 := by omega
        refine wq_X7_signAt h100876 p100891 p100892 p100893 (fun r_14 => ?_)
        exact k _
theorem wq_X7_isOther {post : Int32 → Prop} {s0 : Md} {x1 : Int32} {N R W D : Int} (h100894 : mb (N) (R) (W) (D) s0) (h100895 : 0 ≤ (x1).toInt ∧ (x1).toInt < 40) (h100896 : 0 < D) (k : ∀ (r : Int32), (r).toInt = 0 ∨ (r).toInt = 1 → post r) : wp_X7_isOther post s0 x1 := by
  unfold wp_X7_isOther
  have := h100894.1
  have := h100894.2.1
  have := h100894.2.2.1
  have := h100894.2.2.2.1
  have p100897 : 0 ≤ (x1).toInt ∧ (x1).toInt < 40 := by omega
  have p100898 : 0 < D := by omega
  have p100899 : 0 ≤ ((0 : Int32)).toInt ∧ ((0 : Int32)).toInt ≤ 2 := by (have := li_0; omega)
  refine wq_X7_signAt h100894 p100897 p100898 p100899 (fun r_1 => ?_)
  have p100900 : 0 ≤ (x1).toInt ∧ (x1).toInt < 40 := by omega
  have p100901 : 0 < D := by omega
  have p100902 : 0 ≤ ((2 : Int32)).toInt ∧ ((2 : Int32)).toInt ≤ 2 := by (have := li_2; omega)
  refine wq_X7_signAt h100894 p100900 p100901 p100902 (fun r_3 => ?_)
  refine ⟨fun c100903 => ?_, fun c100904 => ?_⟩
  · replace c100903 := q_eq c100903
    have p100905 : (0 : Int32).toInt = 0 ∨ (0 : Int32).toInt = 1 := by (have := li_0; omega)
    exact k _ p100905
  · replace c100904 := q_neq c100904
    have p100906 : (1 : Int32).toInt = 0 ∨ (1 : Int32).toInt = 1 := by (have := li_1; omega)
    exact k _ p100906
theorem wq_X7_isSuch {post : Int32 → Prop} {s0 : Md} {x1 : Int32} {x2 : Int32} {N R W D : Int} (h100907 : mb (N) (R) (W) (D) s0) (h100908 : 0 ≤ (x1).toInt ∧ (x1).toInt < 40) (h100909 : 0 < D) (k : ∀ (r : Int32), (r).toInt = 0 ∨ (r).toInt = 1 → post r) : wp_X7_isSuch post s0 x1 x2 := by
  unfold wp_X7_isSuch
  have := h100907.1
  have := h100907.2.1
  have := h100907.2.2.1
  have := h100907.2.2.2.1
  refine ⟨fun c100910 => ?_, fun c100911 => ?_⟩
  · replace c100910 := q_eq c100910
    rw [li_0] at c100910
    have p100912 : 0 ≤ (x1).toInt ∧ (x1).toInt < 40 := by omega
    have p100913 : 0 < D := by omega
    refine wq_X7_leftOf h100907 p100912 p100913 (fun r_2 q100914 q100915 => ?_)
    refine ⟨fun c100916 => ?_, fun c100917 => ?_⟩
    · replace c100916 := q_le c100916
      rw [li_0] at c100916
      have p100918 : (0 : Int32).toInt = 0 ∨ (0 : Int32).toInt = 1 := by (have := li_0; omega)
      exact k _ p100918
    · replace c100917 := q_nle c100917
      rw [li_0] at c100917
      have p100919 : (1 : Int32).toInt = 0 ∨ (1 : Int32).toInt = 1 := by (have := li_1; omega)
      exact k _ p100919
  · replace c100911 := q_neq c100911
    rw [li_0] at c100911
    refine ⟨fun c100920 => ?_, fun c100921 => ?_⟩
    · replace c100920 := q_eq c100920
      rw [li_1] at c100920
      have p100922 : 0 ≤ (x1).toInt ∧ (x1).toInt < 40 := by omega
      refine wq_X7_of_1 h100907 p100922 (fun r_6 q100923 q100924 => ?_)
      have p100925 : 0 ≤ (x1).toInt ∧ (x1).toInt < 40 := by omega
      refine wq_X7_of_2 h100907 p100925 (fun r_8 q100926 q100927 => ?_)
      refine ⟨fun c100928 => ?_, fun c100929 => ?_⟩
      · replace c100928 := q_eq c100928
        have p100930 : (0 : Int32).toInt = 0 ∨ (0 : Int32).toInt = 1 := by (have := li_0; omega)
        exact k _ p100930
      · replace c100929 := q_neq c100929
        have p100931 : (1 : Int32).toInt = 0 ∨ (1 : Int32).toInt = 1 := by (have := li_1; omega)
        exact k _ p100931
    · replace c100921 := q_neq c100921
      rw [li_1] at c100921
      refine ⟨fun c100932 => ?_, fun c100933 => ?_⟩
      · replace c100932 := q_eq c100932
        rw [li_2] at c100932
        have p100934 : 0 ≤ (x1).toInt ∧ (x1).toInt < 40 := by omega
        have p100935 : 0 < D := by omega
        refine wq_X7_isOther h100907 p100934 p100935 (fun r_12 q100936 => ?_)
        refine ⟨(nb_b (by omega)), ?_⟩
        have p100937 : (r_12).toInt = 0 ∨ (r_12).toInt = 1 := by omega
        exact k _ p100937
      · replace c100933 := q_neq c100933
        rw [li_2] at c100933
        refine ⟨fun c100938 => ?_, fun c100939 => ?_⟩
        · replace c100938 := q_eq c100938
          rw [li_3] at c100938
          refine wq_X7_isIn (fun r_16 q100940 => ?_)
          refine ⟨(nb_b (by omega)), ?_⟩
          have p100941 : (r_16).toInt = 0 ∨ (r_16).toInt = 1 := by omega
          exact k _ p100941
        · replace c100939 := q_neq c100939
          rw [li_3] at c100939
          have p100942 : 0 ≤ (x1).toInt ∧ (x1).toInt < 40 := by omega
          refine wq_X7_current h100907 p100942 (fun r_19 => ?_)
          refine ⟨fun c100943 => ?_, fun c100944 => ?_⟩
          · have p100945 : (0 : Int32).toInt = 0 ∨ (0 : Int32).toInt = 1 := by (have := li_0; omega)
            exact k _ p100945
          · have p100946 : (1 : Int32).toInt = 0 ∨ (1 : Int32).toInt = 1 := by (have := li_1; omega)
            exact k _ p100946
theorem wq_X7_which_L32 {post : Int64 → Md → Prop} {e64 : Md → Int32 → Int64 → Int32 → Prop} {D N R W : Int} (h100947 : 0 < D) (ke64 : ∀ (t0 : Md) (z1 : Int32) (w2 : Int64) (z4 : Int32), mb (N) (R) (W) (D) t0 → 0 ≤ (z4).toInt ∧ (z4).toInt ≤ R * W → e64 t0 z1 w2 z4) : ∀ (n : Nat) (t0 : Md) (z1 : Int32) (w2 : Int64) (z4 : Int32), mb (N) (R) (W) (D) t0 → 0 ≤ (z4).toInt ∧ (z4).toInt ≤ R * W → R * W - (z4).toInt < (n : Int) → wp_X7_which_L32 post e64 n t0 z1 w2 z4 := by
  intro n
  induction n with
  | zero =>
    intro t0 z1 w2 z4 i100948 i100949 i100950
    have := i100948.1
    have := i100948.2.1
    have := i100948.2.2.1
    have := i100948.2.2.2.1
    exfalso
    omega
  | succ n ih =>
    intro t0 z1 w2 z4 i100948 i100949 i100950
    unfold wp_X7_which_L32
    have := i100948.1
    have := i100948.2.1
    have := i100948.2.2.1
    have := i100948.2.2.2.1
    refine wq_X7_cells i100948 (fun r_9 q100951 => ?_)
    refine ⟨fun c100952 => ?_, fun c100953 => ?_⟩
    · replace c100952 := q_le c100952
      have p100954 : 0 ≤ (z4).toInt ∧ (z4).toInt ≤ R * W := by omega
      exact ke64 _ _ _ _ i100948 p100954
    · replace c100953 := q_nle c100953
      have p100955 : 0 ≤ (z4).toInt ∧ (z4).toInt < 40 := by omega
      have p100956 : 0 < D := by omega
      refine wq_X7_isSuch i100948 p100955 p100956 (fun r_12 q100957 => ?_)
      refine ⟨fun c100958 => ?_, fun c100959 => ?_⟩
      · replace c100958 := q_eq c100958
        rw [li_0] at c100958
        have e100960 := tq_addr li_1 z4
        try rw [Int.emod_eq_of_lt (show 0 ≤ (z4).toInt + 1 + 2147483648 by omega) (show (z4).toInt + 1 + 2147483648 < 4294967296 by omega)] at e100960
        have p100961 : 0 ≤ (z4 + 1).toInt ∧ (z4 + 1).toInt ≤ R * W := by omega
        have p100962 : R * W - (z4 + 1).toInt < ((n : Nat) : Int) := by (omega)
        exact ih _ _ _ _ i100948 p100961 p100962
      · replace c100959 := q_neq c100959
        rw [li_0] at c100959
        have e100963 := tq_addr li_1 z4
        try rw [Int.emod_eq_of_lt (show 0 ≤ (z4).toInt + 1 + 2147483648 by omega) (show (z4).toInt + 1 + 2147483648 < 4294967296 by omega)] at e100963
        have p100964 : 0 ≤ (z4 + 1).toInt ∧ (z4 + 1).toInt ≤ R * W := by omega
        have p100965 : R * W - (z4 + 1).toInt < ((n : Nat) : Int) := by (omega)
        exact ih _ _ _ _ i100948 p100964 p100965
theorem wq_X7_which {post : Int64 → Md → Prop} {s0 : Md} {x1 : Int32} {N R W D : Int} (h100966 : mb (N) (R) (W) (D) s0) (h100967 : R ≤ 0 ∨ 0 < D) (k : ∀ (r : Int64) (u : Md), mb (N) (R) (W) (D) u → post r u) : wp_X7_which post s0 x1 := by
  unfold wp_X7_which
  have := h100966.1
  have := h100966.2.1
  have := h100966.2.2.1
  have := h100966.2.2.2.1
  refine wq_X7_isBoard h100966 (fun r_1 q100968 => ?_)
  refine ⟨fun c100969 => ?_, fun c100970 => ?_⟩
  · replace c100969 := q_eq c100969
    rw [li_0] at c100969
    exact k _ _ h100966
  · replace c100970 := q_neq c100970
    rw [li_0] at c100970
    refine wq_X7_in (fun r_4 q100971 => ?_)
    try simp only [lj_0, lj_4] at q100971
    have := tq_64 x1
    refine ⟨fun c100972 => ?_, fun c100973 => ?_⟩
    · replace c100972 := q_neq c100972
      rw [li_0] at c100972
      have p100974 : 0 < D := by omega
      refine wq_X7_findsTurningB h100966 p100974 (fun u_8 q100975 q100976 q100977 => ?_)
      have := q100975.1
      have := q100975.2.1
      have p100978 : 0 < D := by omega
      have p100979 : 0 ≤ (0 : Int32).toInt ∧ (0 : Int32).toInt ≤ R * W := by (have := li_0; omega)
      obtain ⟨f100980, g100981⟩ := fu_e 50
      have p100982 : R * W - (0 : Int32).toInt < (f100980 : Int) := by (have := li_0; omega)
      refine ⟨f100980, wq_X7_which_L32 p100978 (fun t0 z1 w2 z4 q100983 q100984 => ?_) f100980 _ _ _ _ q100975 p100979 p100982⟩
      have := q100983.1
      have := q100983.2.1
      exact k _ _ q100983
    · replace c100973 := q_eq c100973
      rw [li_0] at c100973
      exact k _ _ h100966
