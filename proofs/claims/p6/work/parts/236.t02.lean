theorem wq_X7_better_L57 {s0 : Md} {post : Int32 → Prop} {e104 : Int32 → Int32 → Int32 → Int32 → Int32 → Int32 → Int32 → Prop} {N R W D Z : Int} (h101813 : mb (N) (R) (W) (D) s0) (ke104 : ∀ (z1 : Int32) (z2 : Int32) (z3 : Int32) (z4 : Int32) (z5 : Int32) (z6 : Int32) (z7 : Int32), 0 ≤ (z1).toInt ∧ (z1).toInt < D → 0 ≤ (z6).toInt ∧ (z6).toInt < d_f ((s0.2.2.1 0)) (z1).toInt.toNat → 0 ≤ (z7).toInt ∧ (z7).toInt ≤ 41 → (z6).toInt = Z → e104 z1 z2 z3 z4 z5 z6 z7) : ∀ (n : Nat) (z1 : Int32) (z2 : Int32) (z3 : Int32) (z4 : Int32) (z5 : Int32) (z6 : Int32) (z7 : Int32), 0 ≤ (z1).toInt ∧ (z1).toInt < D → 0 ≤ (z6).toInt ∧ (z6).toInt < d_f ((s0.2.2.1 0)) (z1).toInt.toNat → 0 ≤ (z7).toInt ∧ (z7).toInt ≤ 41 → (z6).toInt = Z → 41 - (z7).toInt < (n : Int) → wp_X7_better_L57 s0 post e104 n z1 z2 z3 z4 z5 z6 z7 := by
  have := h101813.1
  have := h101813.2.1
  have := h101813.2.2.1
  have := h101813.2.2.2.1
  intro n
  induction n with
  | zero =>
    intro z1 z2 z3 z4 z5 z6 z7 i101814 i101815 i101816 i101817 i101818
    exfalso
    omega
  | succ n ih =>
    intro z1 z2 z3 z4 z5 z6 z7 i101814 i101815 i101816 i101817 i101818
    unfold wp_X7_better_L57
    have p101819 : 0 ≤ (z1).toInt ∧ (z1).toInt < 4 := by omega
    refine wq_X7_flapsOf h101813 p101819 (fun r_12 q101820 => ?_)
    refine ⟨fun c101821 => ?_, fun c101822 => ?_⟩
    · replace c101821 := q_le c101821
      have p101823 : 0 ≤ (z1).toInt ∧ (z1).toInt < D := by omega
      try have := rw_dk h101813.2.2.2.2.1 (show 0 ≤ (z1).toInt ∧ (z1).toInt < D by omega)
      have p101824 : 0 ≤ (z6).toInt ∧ (z6).toInt < d_f ((s0.2.2.1 0)) (z1).toInt.toNat := by omega
      have p101825 : 0 ≤ (z7).toInt ∧ (z7).toInt ≤ 41 := by omega
      have p101826 : (z6).toInt = Z := by omega
      exact ke104 _ _ _ _ _ _ _ p101823 p101824 p101825 p101826
    · replace c101822 := q_nle c101822
      have p101827 : 0 ≤ (z1).toInt ∧ (z1).toInt < D := by omega
      try have := rw_dk h101813.2.2.2.2.1 (show 0 ≤ (z1).toInt ∧ (z1).toInt < D by omega)
      have p101828 : 0 ≤ (z6).toInt ∧ (z6).toInt < d_f ((s0.2.2.1 0)) (z1).toInt.toNat ∧ 0 ≤ (z7).toInt ∧ (z7).toInt < d_f ((s0.2.2.1 0)) (z1).toInt.toNat := by omega
      refine wq_X7_journey h101813 p101827 p101828 (fun r_15 => ?_)
      refine ⟨fun c101829 => ?_, fun c101830 => ?_⟩
      · replace c101829 := q_lt c101829
        have p101831 : 0 ≤ (z1).toInt ∧ (z1).toInt < D := by omega
        have p101832 : 0 ≤ (z6).toInt ∧ (z6).toInt < d_f ((s0.2.2.1 0)) (z1).toInt.toNat := by omega
        have e101833 := tq_addr li_1 z7
        try rw [Int.emod_eq_of_lt (show 0 ≤ (z7).toInt + 1 + 2147483648 by omega) (show (z7).toInt + 1 + 2147483648 < 4294967296 by omega)] at e101833
        have p101834 : 0 ≤ (z7 + 1).toInt ∧ (z7 + 1).toInt ≤ 41 := by omega
        have p101835 : (z6).toInt = Z := by omega
        have p101836 : 41 - (z7 + 1).toInt < ((n : Nat) : Int) := by (omega)
        exact ih _ _ _ _ _ _ _ p101831 p101832 p101834 p101835 p101836
      · replace c101830 := q_nlt c101830
        have p101837 : 0 ≤ (z1).toInt ∧ (z1).toInt < D := by omega
        have p101838 : 0 ≤ (z6).toInt ∧ (z6).toInt < d_f ((s0.2.2.1 0)) (z1).toInt.toNat := by omega
        have e101839 := tq_addr li_1 z7
        try rw [Int.emod_eq_of_lt (show 0 ≤ (z7).toInt + 1 + 2147483648 by omega) (show (z7).toInt + 1 + 2147483648 < 4294967296 by omega)] at e101839
        have p101840 : 0 ≤ (z7 + 1).toInt ∧ (z7 + 1).toInt ≤ 41 := by omega
        have p101841 : (z6).toInt = Z := by omega
        have p101842 : 41 - (z7 + 1).toInt < ((n : Nat) : Int) := by (omega)
        exact ih _ _ _ _ _ _ _ p101837 p101838 p101840 p101841 p101842
theorem wq_X7_better_L41 {s0 : Md} {post : Int32 → Prop} {e110 : Int32 → Int32 → Int32 → Int32 → Int32 → Int32 → Prop} {N R W D : Int} (h101843 : mb (N) (R) (W) (D) s0) (ke110 : ∀ (z1 : Int32) (z2 : Int32) (z3 : Int32) (z4 : Int32) (z5 : Int32) (z6 : Int32), 0 ≤ (z1).toInt ∧ (z1).toInt < D → 1 ≤ (z6).toInt ∧ (z6).toInt ≤ 41 → e110 z1 z2 z3 z4 z5 z6) : ∀ (n : Nat) (z1 : Int32) (z2 : Int32) (z3 : Int32) (z4 : Int32) (z5 : Int32) (z6 : Int32), 0 ≤ (z1).toInt ∧ (z1).toInt < D → 1 ≤ (z6).toInt ∧ (z6).toInt ≤ 41 → 41 - (z6).toInt < (n : Int) → wp_X7_better_L41 s0 post e110 n z1 z2 z3 z4 z5 z6 := by
  have := h101843.1
  have := h101843.2.1
  have := h101843.2.2.1
  have := h101843.2.2.2.1
  intro n
  induction n with
  | zero =>
    intro z1 z2 z3 z4 z5 z6 i101844 i101845 i101846
    exfalso
    omega
  | succ n ih =>
    intro z1 z2 z3 z4 z5 z6 i101844 i101845 i101846
    unfold wp_X7_better_L41
    have p101847 : 0 ≤ (z1).toInt ∧ (z1).toInt < 4 := by omega
    refine wq_X7_flapsOf h101843 p101847 (fun r_9 q101848 => ?_)
    refine ⟨fun c101849 => ?_, fun c101850 => ?_⟩
    · replace c101849 := q_le c101849
      have p101851 : 0 ≤ (z1).toInt ∧ (z1).toInt < D := by omega
      have p101852 : 1 ≤ (z6).toInt ∧ (z6).toInt ≤ 41 := by omega
      exact ke110 _ _ _ _ _ _ p101851 p101852
    · replace c101850 := q_nle c101850
      have p101853 : 0 ≤ (z1).toInt ∧ (z1).toInt < D := by omega
      try have := rw_dk h101843.2.2.2.2.1 (show 0 ≤ (z1).toInt ∧ (z1).toInt < D by omega)
      have p101854 : 0 ≤ (z6).toInt ∧ (z6).toInt < d_f ((s0.2.2.1 0)) (z1).toInt.toNat := by omega
      have e101855 := tq_addr li_1 z6
      try rw [Int.emod_eq_of_lt (show 0 ≤ (z6).toInt + 1 + 2147483648 by omega) (show (z6).toInt + 1 + 2147483648 < 4294967296 by omega)] at e101855
      have p101856 : 0 ≤ (z6 + 1).toInt ∧ (z6 + 1).toInt ≤ 41 := by omega
      have p101857 : (z6).toInt = ((z6).toInt) := by omega
      obtain ⟨f101858, g101859⟩ := fu_e 50
      have p101860 : 41 - (z6 + 1).toInt < (f101858 : Int) := by (omega)
      refine ⟨f101858, wq_X7_better_L57 h101843 (fun z1_101861 z2_101862 z3_101863 z4_101864 z5_101865 z6_101866 z7 q101867 q101868 q101869 q101870 => ?_) f101858 _ _ _ _ _ _ _ p101853 p101854 p101856 p101857 p101860⟩
      have p101871 : 0 ≤ (z1_101861).toInt ∧ (z1_101861).toInt < D := by omega
      have e101872 := tq_addr li_1 z6_101866
      try rw [Int.emod_eq_of_lt (show 0 ≤ (z6_101866).toInt + 1 + 2147483648 by omega) (show (z6_101866).toInt + 1 + 2147483648 < 4294967296 by omega)] at e101872
      have p101873 : 1 ≤ (z6_101866 + 1).toInt ∧ (z6_101866 + 1).toInt ≤ 41 := by omega
      have p101874 : 41 - (z6_101866 + 1).toInt < ((n : Nat) : Int) := by (omega)
      exact ih _ _ _ _ _ _ p101871 p101873 p101874
theorem wq_X7_better {post : Int32 → Prop} {s0 : Md} {x1 : Int32} {x2 : Int32} {N R W D : Int} (h101875 : mb (N) (R) (W) (D) s0) (k : ∀ (r : Int32), post r) : wp_X7_better post s0 x1 x2 := by
  unfold wp_X7_better
  have := h101875.1
  have := h101875.2.1
  have := h101875.2.2.1
  have := h101875.2.2.2.1
  refine wq_X7_isDrum h101875 (fun r_1 q101876 => ?_)
  refine ⟨fun c101877 => ?_, fun c101878 => ?_⟩
  · replace c101877 := q_eq c101877
    rw [li_0] at c101877
    exact k _
  · replace c101878 := q_neq c101878
    rw [li_0] at c101878
    refine wq_X7_in (fun r_4 q101879 => ?_)
    try simp only [lj_0, lj_2] at q101879
    have := tq_64 x2
    refine ⟨fun c101880 => ?_, fun c101881 => ?_⟩
    · replace c101880 := q_neq c101880
      rw [li_0] at c101880
      have p101882 : 0 ≤ (x1).toInt ∧ (x1).toInt < D := by omega
      try have := rw_dk h101875.2.2.2.2.1 (show 0 ≤ (x1).toInt ∧ (x1).toInt < D by omega)
      have p101883 : 0 ≤ ((0 : Int32)).toInt ∧ ((0 : Int32)).toInt < d_f ((s0.2.2.1 0)) (x1).toInt.toNat ∧ 0 ≤ ((0 : Int32)).toInt ∧ ((0 : Int32)).toInt < d_f ((s0.2.2.1 0)) (x1).toInt.toNat := by (have := li_0; omega)
      refine wq_X7_journey h101875 p101882 p101883 (fun r_7 => ?_)
      have p101884 : 0 ≤ (x1).toInt ∧ (x1).toInt < D := by omega
      have p101885 : 1 ≤ (1 : Int32).toInt ∧ (1 : Int32).toInt ≤ 41 := by (have := li_1; omega)
      obtain ⟨f101886, g101887⟩ := fu_e 50
      have p101888 : 41 - (1 : Int32).toInt < (f101886 : Int) := by (have := li_1; omega)
      refine ⟨f101886, wq_X7_better_L41 h101875 (fun z1 z2 z3 z4 z5 z6 q101889 q101890 => ?_) f101886 _ _ _ _ _ _ p101884 p101885 p101888⟩
      refine ⟨fun c101891 => ?_, fun c101892 => ?_⟩
      · replace c101891 := q_neq c101891
        rw [li_m2] at c101891
        refine ⟨fun c101893 => ?_, fun c101894 => ?_⟩
        · replace c101893 := q_neq c101893
          rw [li_0] at c101893
          refine ⟨fun c101895 => ?_, fun c101896 => ?_⟩
          · replace c101895 := q_neq c101895
            rw [li_1] at c101895
            exact k _
          · replace c101896 := q_eq c101896
            rw [li_1] at c101896
            exact k _
        · replace c101894 := q_eq c101894
          rw [li_0] at c101894
          exact k _
      · replace c101892 := q_eq c101892
        rw [li_m2] at c101892
        exact k _
    · replace c101881 := q_eq c101881
      rw [li_0] at c101881
      exact k _
theorem wq_X7_farthest_L29 {s0 : Md} {post : Int32 → Prop} {e101 : Int32 → Int32 → Int32 → Int32 → Int32 → Prop} {N R W D : Int} (h101897 : mb (N) (R) (W) (D) s0) (h101898 : 0 < D) (ke101 : ∀ (z1 : Int32) (z2 : Int32) (z3 : Int32) (z4 : Int32) (z5 : Int32), 0 ≤ (z1).toInt ∧ (z1).toInt < 40 → 32 ≤ (z5).toInt ∧ (z5).toInt ≤ 127 → e101 z1 z2 z3 z4 z5) : ∀ (n : Nat) (z1 : Int32) (z2 : Int32) (z3 : Int32) (z4 : Int32) (z5 : Int32), 0 ≤ (z1).toInt ∧ (z1).toInt < 40 → 32 ≤ (z5).toInt ∧ (z5).toInt ≤ 127 → 127 - (z5).toInt < (n : Int) → wp_X7_farthest_L29 s0 post e101 n z1 z2 z3 z4 z5 := by
  have := h101897.1
  have := h101897.2.1
  have := h101897.2.2.1
  have := h101897.2.2.2.1
  intro n
  induction n with
  | zero =>
    intro z1 z2 z3 z4 z5 i101899 i101900 i101901
    exfalso
    omega
  | succ n ih =>
    intro z1 z2 z3 z4 z5 i101899 i101900 i101901
    unfold wp_X7_farthest_L29
    refine ⟨fun c101902 => ?_, fun c101903 => ?_⟩
    · replace c101902 := q_le c101902
      rw [li_127] at c101902
      have p101904 : 0 ≤ (z1).toInt ∧ (z1).toInt < 40 := by omega
      have p101905 : 32 ≤ (z5).toInt ∧ (z5).toInt ≤ 127 := by omega
      exact ke101 _ _ _ _ _ p101904 p101905
    · replace c101903 := q_nle c101903
      rw [li_127] at c101903
      have p101906 : 0 ≤ (z1).toInt ∧ (z1).toInt < 40 := by omega
      have p101907 : 0 < D := by omega
      refine wq_X7_flapFor h101897 p101906 p101907 (fun r_8 q101908 => ?_)
      refine ⟨fun c101909 => ?_, fun c101910 => ?_⟩
      · replace c101909 := q_eq c101909
        rw [li_m1] at c101909
        have p101911 : 0 ≤ (z1).toInt ∧ (z1).toInt < 40 := by omega
        have e101912 := tq_addr li_1 z5
        try rw [Int.emod_eq_of_lt (show 0 ≤ (z5).toInt + 1 + 2147483648 by omega) (show (z5).toInt + 1 + 2147483648 < 4294967296 by omega)] at e101912
        have p101913 : 32 ≤ (z5 + 1).toInt ∧ (z5 + 1).toInt ≤ 127 := by omega
        have p101914 : 127 - (z5 + 1).toInt < ((n : Nat) : Int) := by (omega)
        exact ih _ _ _ _ _ p101911 p101913 p101914
      · replace c101910 := q_neq c101910
        rw [li_m1] at c101910
        have p101915 : 0 ≤ (z1).toInt ∧ (z1).toInt < 40 := by omega
        refine wq_X7_of_2 h101897 p101915 (fun r_11 q101916 q101917 => ?_)
        have p101918 : 0 ≤ (z1).toInt ∧ (z1).toInt < 40 := by omega
        refine wq_X7_flaps h101897 p101918 (fun r_13 q101919 => ?_)
        have p101920 : 1 ≤ (r_13).toInt ∧ (r_13).toInt ≤ 40 := by omega
        have p101921 : 0 ≤ (r_11).toInt ∧ (r_11).toInt < (r_13).toInt := by omega
        have p101922 : 0 ≤ (r_8).toInt ∧ (r_8).toInt < (r_13).toInt := by omega
        refine wq_X7_on p101920 p101921 p101922 (fun r_15 q101923 => ?_)
        refine ⟨fun c101924 => ?_, fun c101925 => ?_⟩
        · replace c101924 := q_lt c101924
          have p101926 : 0 ≤ (z1).toInt ∧ (z1).toInt < 40 := by omega
          refine wq_X7_of_2 h101897 p101926 (fun r_18 q101927 q101928 => ?_)
          have p101929 : 0 ≤ (z1).toInt ∧ (z1).toInt < 40 := by omega
          refine wq_X7_flaps h101897 p101929 (fun r_20 q101930 => ?_)
          have p101931 : 1 ≤ (r_20).toInt ∧ (r_20).toInt ≤ 40 := by omega
          have p101932 : 0 ≤ (r_18).toInt ∧ (r_18).toInt < (r_20).toInt := by omega
          have p101933 : 0 ≤ (r_8).toInt ∧ (r_8).toInt < (r_20).toInt := by omega
          refine wq_X7_on p101931 p101932 p101933 (fun r_22 q101934 => ?_)
          have p101935 : 0 ≤ (z1).toInt ∧ (z1).toInt < 40 := by omega
          have e101936 := tq_addr li_1 z5
          try rw [Int.emod_eq_of_lt (show 0 ≤ (z5).toInt + 1 + 2147483648 by omega) (show (z5).toInt + 1 + 2147483648 < 4294967296 by omega)] at e101936
          have p101937 : 32 ≤ (z5 + 1).toInt ∧ (z5 + 1).toInt ≤ 127 := by omega
          have p101938 : 127 - (z5 + 1).toInt < ((n : Nat) : Int) := by (omega)
          exact ih _ _ _ _ _ p101935 p101937 p101938
        · replace c101925 := q_nlt c101925
          have p101939 : 0 ≤ (z1).toInt ∧ (z1).toInt < 40 := by omega
          have e101940 := tq_addr li_1 z5
          try rw [Int.emod_eq_of_lt (show 0 ≤ (z5).toInt + 1 + 2147483648 by omega) (show (z5).toInt + 1 + 2147483648 < 4294967296 by omega)] at e101940
          have p101941 : 32 ≤ (z5 + 1).toInt ∧ (z5 + 1).toInt ≤ 127 := by omega
          have p101942 : 127 - (z5 + 1).toInt < ((n : Nat) : Int) := by (omega)
          exact ih _ _ _ _ _ p101939 p101941 p101942
theorem wq_X7_farthest {post : Int32 → Prop} {s0 : Md} {x1 : Int32} {x2 : Int32} {N R W D : Int} (h101943 : mb (N) (R) (W) (D) s0) (h101944 : R ≤ 0 ∨ 0 < D) (k : ∀ (r : Int32), post r) : wp_X7_farthest post s0 x1 x2 := by
  unfold wp_X7_farthest
  have := h101943.1
  have := h101943.2.1
  have := h101943.2.2.1
  have := h101943.2.2.2.1
  refine wq_X7_isCell h101943 (fun r_1 q101945 => ?_)
  refine ⟨fun c101946 => ?_, fun c101947 => ?_⟩
  · replace c101946 := q_eq c101946
    rw [li_0] at c101946
    exact k _
  · replace c101947 := q_neq c101947
    rw [li_0] at c101947
    refine wq_X7_in (fun r_4 q101948 => ?_)
    try simp only [lj_0, lj_1] at q101948
    have := tq_64 x2
    refine ⟨fun c101949 => ?_, fun c101950 => ?_⟩
    · replace c101949 := q_neq c101949
      rw [li_0] at c101949
      have p101951 : 0 < D := by omega
      have p101952 : 0 ≤ (x1).toInt ∧ (x1).toInt < 40 := by omega
      have p101953 : 32 ≤ (32 : Int32).toInt ∧ (32 : Int32).toInt ≤ 127 := by (have := li_32; omega)
      obtain ⟨f101954, g101955⟩ := fu_e 200
      have p101956 : 127 - (32 : Int32).toInt < (f101954 : Int) := by (have := li_32; omega)
      refine ⟨f101954, wq_X7_farthest_L29 h101943 p101951 (fun z1 z2 z3 z4 z5 q101957 q101958 => ?_) f101954 _ _ _ _ _ p101952 p101953 p101956⟩
      refine ⟨fun c101959 => ?_, fun c101960 => ?_⟩
      · replace c101959 := q_neq c101959
        rw [li_0] at c101959
        exact k _
      · replace c101960 := q_eq c101960
        rw [li_0] at c101960
        exact k _
    · replace c101950 := q_eq c101950
      rw [li_0] at c101950
      exact k _
theorem wq_X7_hasElsewhere_L2 {s0 : Md} {post : Int32 → Prop} {e32 : Int32 → Int32 → Int32 → Prop} {N R W D : Int} (h101961 : mb (N) (R) (W) (D) s0) (ke32 : ∀ (z1 : Int32) (z2 : Int32) (z3 : Int32), e32 z1 z2 z3) (k : ∀ (r : Int32), (r).toInt = 0 ∨ (r).toInt = 1 → post r) : ∀ (n : Nat) (z1 : Int32) (z2 : Int32) (z3 : Int32), 0 ≤ (z3).toInt ∧ (z3).toInt ≤ 4 → 4 - (z3).toInt < (n : Int) → wp_X7_hasElsewhere_L2 s0 post e32 n z1 z2 z3 := by
  have := h101961.1
  have := h101961.2.1
  have := h101961.2.2.1
  have := h101961.2.2.2.1
  intro n
  induction n with
  | zero =>
    intro z1 z2 z3 i101962 i101963
    exfalso
    omega
  | succ n ih =>
    intro z1 z2 z3 i101962 i101963
    unfold wp_X7_hasElsewhere_L2
    refine wq_X7_drums h101961 (fun r_1 q101964 => ?_)
    refine ⟨fun c101965 => ?_, fun c101966 => ?_⟩
    · replace c101965 := q_le c101965
      exact ke32 _ _ _
    · replace c101966 := q_nle c101966
      refine ⟨fun c101967 => ?_, fun c101968 => ?_⟩
      · replace c101967 := q_eq c101967
        have e101969 := tq_addr li_1 z3
        try rw [Int.emod_eq_of_lt (show 0 ≤ (z3).toInt + 1 + 2147483648 by omega) (show (z3).toInt + 1 + 2147483648 < 4294967296 by omega)] at e101969
        have p101970 : 0 ≤ (z3 + 1).toInt ∧ (z3 + 1).toInt ≤ 4 := by omega
        have p101971 : 4 - (z3 + 1).toInt < ((n : Nat) : Int) := by (omega)
        exact ih _ _ _ p101970 p101971
      · replace c101968 := q_neq c101968
        have p101972 : 0 ≤ (z3).toInt ∧ (z3).toInt < D := by omega
        refine wq_X7_manyWith h101961 p101972 (fun r_5 => ?_)
        refine ⟨fun c101973 => ?_, fun c101974 => ?_⟩
        · replace c101973 := q_le c101973
          rw [li_0] at c101973
          have e101975 := tq_addr li_1 z3
          try rw [Int.emod_eq_of_lt (show 0 ≤ (z3).toInt + 1 + 2147483648 by omega) (show (z3).toInt + 1 + 2147483648 < 4294967296 by omega)] at e101975
          have p101976 : 0 ≤ (z3 + 1).toInt ∧ (z3 + 1).toInt ≤ 4 := by omega
          have p101977 : 4 - (z3 + 1).toInt < ((n : Nat) : Int) := by (omega)
          exact ih _ _ _ p101976 p101977
        · replace c101974 := q_nle c101974
          rw [li_0] at c101974
          have p101978 : (1 : Int32).toInt = 0 ∨ (1 : Int32).toInt = 1 := by (have := li_1; omega)
          exact k _ p101978
theorem wq_X7_hasElsewhere {post : Int32 → Prop} {s0 : Md} {x1 : Int32} {x2 : Int32} {N R W D : Int} (h101979 : mb (N) (R) (W) (D) s0) (k : ∀ (r : Int32), (r).toInt = 0 ∨ (r).toInt = 1 → post r) : wp_X7_hasElsewhere post s0 x1 x2 := by
  unfold wp_X7_hasElsewhere
  have := h101979.1
  have := h101979.2.1
  have := h101979.2.2.1
  have := h101979.2.2.2.1
  have p101980 : 0 ≤ (0 : Int32).toInt ∧ (0 : Int32).toInt ≤ 4 := by (have := li_0; omega)
  obtain ⟨f101981, g101982⟩ := fu_e 10
  have p101983 : 4 - (0 : Int32).toInt < (f101981 : Int) := by (have := li_0; omega)
  refine ⟨f101981, wq_X7_hasElsewhere_L2 h101979 (fun z1 z2 z3 => ?_) k f101981 _ _ _ p101980 p101983⟩
  have p101984 : (0 : Int32).toInt = 0 ∨ (0 : Int32).toInt = 1 := by (have := li_0; omega)
  exact k _ p101984
theorem wq_X7_lacks_L26 {s0 : Md} {post : Int32 → Prop} {e117 : Int32 → Int32 → Int32 → Int32 → Prop} {N R W D : Int} (h101985 : mb (N) (R) (W) (D) s0) (h101986 : 0 < D) (ke117 : ∀ (z1 : Int32) (z2 : Int32) (z3 : Int32) (z4 : Int32), 0 ≤ (z1).toInt ∧ (z1).toInt < 40 → 32 ≤ (z4).toInt ∧ (z4).toInt ≤ 127 → e117 z1 z2 z3 z4) : ∀ (n : Nat) (z1 : Int32) (z2 : Int32) (z3 : Int32) (z4 : Int32), 0 ≤ (z1).toInt ∧ (z1).toInt < 40 → 32 ≤ (z4).toInt ∧ (z4).toInt ≤ 127 → 127 - (z4).toInt < (n : Int) → wp_X7_lacks_L26 s0 post e117 n z1 z2 z3 z4 := by
  have := h101985.1
  have := h101985.2.1
  have := h101985.2.2.1
  have := h101985.2.2.2.1
  intro n
  induction n with
  | zero =>
    intro z1 z2 z3 z4 i101987 i101988 i101989
    exfalso
    omega
  | succ n ih =>
    intro z1 z2 z3 z4 i101987 i101988 i101989
    unfold wp_X7_lacks_L26
    refine ⟨fun c101990 => ?_, fun c101991 => ?_⟩
    · replace c101990 := q_le c101990
      rw [li_127] at c101990
      have p101992 : 0 ≤ (z1).toInt ∧ (z1).toInt < 40 := by omega
      have p101993 : 32 ≤ (z4).toInt ∧ (z4).toInt ≤ 127 := by omega
      exact ke117 _ _ _ _ p101992 p101993
    · replace c101991 := q_nle c101991
      rw [li_127] at c101991
      have p101994 : 0 ≤ (z1).toInt ∧ (z1).toInt < 40 := by omega
      refine wq_X7_of_0 h101985 p101994 (fun r_8 q101995 q101996 => ?_)
      have p101997 : 0 ≤ (r_8).toInt ∧ (r_8).toInt < D := by omega
      refine wq_X7_manyWith h101985 p101997 (fun r_10 => ?_)
      refine ⟨fun c101998 => ?_, fun c101999 => ?_⟩
      · replace c101998 := q_le c101998
        rw [li_0] at c101998
        refine ⟨fun c102000 => ?_, fun c102001 => ?_⟩
        · replace c102000 := q_neq c102000
          rw [li_0] at c102000
          have p102002 : 0 ≤ (z1).toInt ∧ (z1).toInt < 40 := by omega
          refine wq_X7_of_0 h101985 p102002 (fun r_14 q102003 q102004 => ?_)
          refine wq_X7_hasElsewhere h101985 (fun r_16 q102005 => ?_)
          refine ⟨fun c102006 => ?_, fun c102007 => ?_⟩
          · replace c102006 := q_eq c102006
            rw [li_0] at c102006
            have p102008 : 0 ≤ (z1).toInt ∧ (z1).toInt < 40 := by omega
            have e102009 := tq_addr li_1 z4
            try rw [Int.emod_eq_of_lt (show 0 ≤ (z4).toInt + 1 + 2147483648 by omega) (show (z4).toInt + 1 + 2147483648 < 4294967296 by omega)] at e102009
            have p102010 : 32 ≤ (z4 + 1).toInt ∧ (z4 + 1).toInt ≤ 127 := by omega
            have p102011 : 127 - (z4 + 1).toInt < ((n : Nat) : Int) := by (omega)
            exact ih _ _ _ _ p102008 p102010 p102011
          · replace c102007 := q_neq c102007
            rw [li_0] at c102007
            have p102012 : 0 ≤ (z1).toInt ∧ (z1).toInt < 40 := by omega
            have e102013 := tq_addr li_1 z4
            try rw [Int.emod_eq_of_lt (show 0 ≤ (z4).toInt + 1 + 2147483648 by omega) (show (z4).toInt + 1 + 2147483648 < 4294967296 by omega)] at e102013
            have p102014 : 32 ≤ (z4 + 1).toInt ∧ (z4 + 1).toInt ≤ 127 := by omega
            have p102015 : 127 - (z4 + 1).toInt < ((n : Nat) : Int) := by (omega)
            exact ih _ _ _ _ p102012 p102014 p102015
        · replace c102001 := q_eq c102001
          rw [li_0] at c102001
          have p102016 : 0 ≤ (z1).toInt ∧ (z1).toInt < 40 := by omega
          have e102017 := tq_addr li_1 z4
          try rw [Int.emod_eq_of_lt (show 0 ≤ (z4).toInt + 1 + 2147483648 by omega) (show (z4).toInt + 1 + 2147483648 < 4294967296 by omega)] at e102017
          have p102018 : 32 ≤ (z4 + 1).toInt ∧ (z4 + 1).toInt ≤ 127 := by omega
          have p102019 : 127 - (z4 + 1).toInt < ((n : Nat) : Int) := by (omega)
          exact ih _ _ _ _ p102016 p102018 p102019
      · replace c101999 := q_nle c101999
        rw [li_0] at c101999
        refine ⟨fun c102020 => ?_, fun c102021 => ?_⟩
        · replace c102020 := q_neq c102020
          rw [li_0] at c102020
          have p102022 : 0 ≤ (z1).toInt ∧ (z1).toInt < 40 := by omega
          have e102023 := tq_addr li_1 z4
          try rw [Int.emod_eq_of_lt (show 0 ≤ (z4).toInt + 1 + 2147483648 by omega) (show (z4).toInt + 1 + 2147483648 < 4294967296 by omega)] at e102023
          have p102024 : 32 ≤ (z4 + 1).toInt ∧ (z4 + 1).toInt ≤ 127 := by omega
          have p102025 : 127 - (z4 + 1).toInt < ((n : Nat) : Int) := by (omega)
          exact ih _ _ _ _ p102022 p102024 p102025
        · replace c102021 := q_eq c102021
          rw [li_0] at c102021
          have p102026 : 0 ≤ (z1).toInt ∧ (z1).toInt < 40 := by omega
          have p102027 : 0 < D := by omega
          refine wq_X7_flapFor h101985 p102026 p102027 (fun r_20 q102028 => ?_)
          refine ⟨fun c102029 => ?_, fun c102030 => ?_⟩
          · replace c102029 := q_neq c102029
            rw [li_m1] at c102029
            have p102031 : 0 ≤ (z1).toInt ∧ (z1).toInt < 40 := by omega
            have e102032 := tq_addr li_1 z4
            try rw [Int.emod_eq_of_lt (show 0 ≤ (z4).toInt + 1 + 2147483648 by omega) (show (z4).toInt + 1 + 2147483648 < 4294967296 by omega)] at e102032
            have p102033 : 32 ≤ (z4 + 1).toInt ∧ (z4 + 1).toInt ≤ 127 := by omega
            have p102034 : 127 - (z4 + 1).toInt < ((n : Nat) : Int) := by (omega)
            exact ih _ _ _ _ p102031 p102033 p102034
          · replace c102030 := q_eq c102030
            rw [li_m1] at c102030
            have p102035 : 0 ≤ (z1).toInt ∧ (z1).toInt < 40 := by omega
            have e102036 := tq_addr li_1 z4
            try rw [Int.emod_eq_of_lt (show 0 ≤ (z4).toInt + 1 + 2147483648 by omega) (show (z4).toInt + 1 + 2147483648 < 4294967296 by omega)] at e102036
            have p102037 : 32 ≤ (z4 + 1).toInt ∧ (z4 + 1).toInt ≤ 127 := by omega
            have p102038 : 127 - (z4 + 1).toInt < ((n : Nat) : Int) := by (omega)
            exact ih _ _ _ _ p102035 p102037 p102038
theorem wq_X7_lacks {post : Int32 → Prop} {s0 : Md} {x1 : Int32} {x2 : Int32} {N R W D : Int} (h102039 : mb (N) (R) (W) (D) s0) (h102040 : R ≤ 0 ∨ 0 < D) (k : ∀ (r : Int32), post r) : wp_X7_lacks post s0 x1 x2 := by
  unfold wp_X7_lacks
  have := h102039.1
  have := h102039.2.1
  have := h102039.2.2.1
  have := h102039.2.2.2.1
  refine wq_X7_isCell h102039 (fun r_1 q102041 => ?_)
  refine ⟨fun c102042 => ?_, fun c102043 => ?_⟩
  · replace c102042 := q_eq c102042
    rw [li_0] at c102042
    exact k _
  · replace c102043 := q_neq c102043
    rw [li_0] at c102043
    refine wq_X7_in (fun r_4 q102044 => ?_)
    try simp only [lj_0, lj_1] at q102044
    have := tq_64 x2
    refine ⟨fun c102045 => ?_, fun c102046 => ?_⟩
    · replace c102045 := q_neq c102045
      rw [li_0] at c102045
      have p102047 : 0 < D := by omega
      have p102048 : 0 ≤ (x1).toInt ∧ (x1).toInt < 40 := by omega
      have p102049 : 32 ≤ (32 : Int32).toInt ∧ (32 : Int32).toInt ≤ 127 := by (have := li_32; omega)
      obtain ⟨f102050, g102051⟩ := fu_e 200
      have p102052 : 127 - (32 : Int32).toInt < (f102050 : Int) := by (have := li_32; omega)
      refine ⟨f102050, wq_X7_lacks_L26 h102039 p102047 (fun z1 z2 z3 z4 q102053 q102054 => ?_) f102050 _ _ _ _ p102048 p102049 p102052⟩
      exact k _
    · replace c102046 := q_eq c102046
      rw [li_0] at c102046
      exact k _
theorem wq_X7_usual_L29 {s0 : Md} {post : Int32 → Prop} {e74 : Int32 → Int32 → Int32 → Int32 → Int32 → Prop} {N R W D : Int} (h102055 : mb (N) (R) (W) (D) s0) (ke74 : ∀ (z1 : Int32) (z2 : Int32) (z3 : Int32) (z4 : Int32) (z5 : Int32), 0 ≤ (z1).toInt ∧ (z1).toInt < D → 0 ≤ (z5).toInt ∧ (z5).toInt ≤ 40 → e74 z1 z2 z3 z4 z5) : ∀ (n : Nat) (z1 : Int32) (z2 : Int32) (z3 : Int32) (z4 : Int32) (z5 : Int32), 0 ≤ (z1).toInt ∧ (z1).toInt < D → 0 ≤ (z5).toInt ∧ (z5).toInt ≤ 40 → 40 - (z5).toInt < (n : Int) → wp_X7_usual_L29 s0 post e74 n z1 z2 z3 z4 z5 := by
  have := h102055.1
  have := h102055.2.1
  have := h102055.2.2.1
  have := h102055.2.2.2.1
  intro n
  induction n with
  | zero =>
    intro z1 z2 z3 z4 z5 i102056 i102057 i102058
    exfalso
    omega
  | succ n ih =>
    intro z1 z2 z3 z4 z5 i102056 i102057 i102058
    unfold wp_X7_usual_L29
    have p102059 : 0 ≤ (z1).toInt ∧ (z1).toInt < 4 := by omega
    refine wq_X7_flapsOf h102055 p102059 (fun r_7 q102060 => ?_)
    refine ⟨fun c102061 => ?_, fun c102062 => ?_⟩
    · replace c102061 := q_le c102061
      have p102063 : 0 ≤ (z1).toInt ∧ (z1).toInt < D := by omega
      have p102064 : 0 ≤ (z5).toInt ∧ (z5).toInt ≤ 40 := by omega
      exact ke74 _ _ _ _ _ p102063 p102064
    · replace c102062 := q_nle c102062
      refine wq_X7_often h102055 (fun r_10 => ?_)
      refine ⟨fun c102065 => ?_, fun c102066 => ?_⟩
      · replace c102065 := q_lt c102065
        refine wq_X7_often h102055 (fun r_13 => ?_)
        have p102067 : 0 ≤ (z1).toInt ∧ (z1).toInt < D := by omega
        have e102068 := tq_addr li_1 z5
        try rw [Int.emod_eq_of_lt (show 0 ≤ (z5).toInt + 1 + 2147483648 by omega) (show (z5).toInt + 1 + 2147483648 < 4294967296 by omega)] at e102068
        have p102069 : 0 ≤ (z5 + 1).toInt ∧ (z5 + 1).toInt ≤ 40 := by omega
        have p102070 : 40 - (z5 + 1).toInt < ((n : Nat) : Int) := by (omega)
        exact ih _ _ _ _ _ p102067 p102069 p102070
      · replace c102066 := q_nlt c102066
        have p102071 : 0 ≤ (z1).toInt ∧ (z1).toInt < D := by omega
        have e102072 := tq_addr li_1 z5
        try rw [Int.emod_eq_of_lt (show 0 ≤ (z5).toInt + 1 + 2147483648 by omega) (show (z5).toInt + 1 + 2147483648 < 4294967296 by omega)] at e102072
        have p102073 : 0 ≤ (z5 + 1).toInt ∧ (z5 + 1).toInt ≤ 40 := by omega
        have p102074 : 40 - (z5 + 1).toInt < ((n : Nat) : Int) := by (omega)
        exact ih _ _ _ _ _ p102071 p102073 p102074
