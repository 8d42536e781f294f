theorem wq_X7_goesWait {post : Int32 → Md → Prop} {s0 : Md} {x1 : Int32} {N R W D : Int} (h102837 : mb (N) (R) (W) (D) s0) (h102838 : 0 < D) (h102839 : 0 ≤ (s0.1 6).toInt ∧ (s0.1 6).toInt + 4 ≤ N) (k : ∀ (r : Int32) (u : Md), mb (N) (R) (W) (D) u → ie [1, 2, 6, 7, 8, 9, 10, 11, 12, 13] u.1 s0.1 → (r).toInt = 0 ∨ (r).toInt = 1 → (s0.1 6).toInt ≤ (u.1 6).toInt ∧ (u.1 6).toInt ≤ N → post r u) : wp_X7_goesWait post s0 x1 := by
  unfold wp_X7_goesWait
  have := h102837.1
  have := h102837.2.1
  have := h102837.2.2.1
  have := h102837.2.2.2.1
  have p102840 : (s0.1 5).toInt = N := by omega
  have p102841 : 0 ≤ (s0.1 0).toInt ∧ (s0.1 0).toInt ≤ 10 := by omega
  have p102842 : 0 ≤ N ∧ N ≤ 400 := by omega
  have p102843 : 0 ≤ R ∧ R ≤ 6 ∧ 0 ≤ W ∧ W ≤ 10 ∧ 0 ≤ R * W ∧ R * W ≤ 40 ∧ 0 ≤ D ∧ D ≤ 4 ∧ (D ≤ 0 ∨ 1 ≤ R) ∧ (1 ≤ R ∨ R * W = 0) := by omega
  have B102844 : mb (N) (R) (W) (D) ((va_up s0.1 6 ((s0.1 6) + 4)), s0.2.1, s0.2.2.1, s0.2.2.2) := ⟨p102840, p102841, p102842, p102843, h102837.2.2.2.2.1, h102837.2.2.2.2.2.1, h102837.2.2.2.2.2.2.1, h102837.2.2.2.2.2.2.2⟩
  have e102845 := tq_addr li_4 (s0.1 6)
  try rw [Int.emod_eq_of_lt (show 0 ≤ (s0.1 6).toInt + 4 + 2147483648 by omega) (show (s0.1 6).toInt + 4 + 2147483648 < 4294967296 by omega)] at e102845
  have p102846 : 0 ≤ ((s0.1 6) + 4).toInt ∧ ((s0.1 6) + 4).toInt ≤ N := by omega
  refine wq_X7_readsNumber B102844 p102846 (fun r_1 u_2 q102847 q102848 q102849 q102850 q102851 q102852 => ?_)
  have := q102847.1
  have := q102847.2.1
  replace q102849 : (r_1).toInt = 0 ∨ (r_1).toInt = 1 := q102849
  replace q102850 : ((s0.1 6) + 4).toInt ≤ (u_2.1 6).toInt ∧ (u_2.1 6).toInt ≤ N := q102850
  replace q102851 : (r_1).toInt = 0 ∨ (((1 : Int32)).toInt ≤ (u_2.1 8).toInt ∧ (u_2.1 8).toInt ≤ ((99 : Int32)).toInt) := q102851
  try simp only [li_1, li_99] at q102851
  refine ⟨fun c102853 => ?_, fun c102854 => ?_⟩
  · replace c102853 := q_neq c102853
    rw [li_0] at c102853
    refine wq_X7_isDone q102847 (fun r_4 u_5 q102855 q102856 q102857 => ?_)
    have := q102855.1
    have := q102855.2.1
    refine ⟨fun c102858 => ?_, fun c102859 => ?_⟩
    · replace c102858 := q_neq c102858
      rw [li_0] at c102858
      have p102860 : 0 < D := by omega
      have p102861 : ie [1, 2] u_5.1 u_5.1 := (ie_refl _ _)
      have : (u_5.1 8).toInt = (u_2.1 8).toInt := ie_i q102856 8 (by decide)
      have p102862 : 0 ≤ (0 : Int32).toInt ∧ (0 : Int32).toInt ≤ (u_5.1 8).toInt ∧ (u_5.1 8).toInt ≤ 99 := by (have := li_0; omega)
      obtain ⟨f102863, g102864⟩ := fu_e 200
      have p102865 : (u_5.1 8).toInt - (0 : Int32).toInt < (f102863 : Int) := by (have := li_0; omega)
      refine ⟨f102863, wq_X7_goesWait_L34 p102860 (fun t0 z1 z2 q102866 q102867 q102868 => ?_) f102863 _ _ _ q102855 p102861 p102862 p102865⟩
      have := q102866.1
      have := q102866.2.1
      have : (t0.1 8).toInt = (u_5.1 8).toInt := ie_i q102867 8 (by decide)
      have p102869 : ie [1, 2, 6, 7, 8, 9, 10, 11, 12, 13] t0.1 s0.1 := (ie_tr q102867 (by decide) (ie_tr q102856 (by decide) (ie_tr q102848 (by decide) (ie_up (ie_refl _ _) (by decide)))))
      have p102870 : (1 : Int32).toInt = 0 ∨ (1 : Int32).toInt = 1 := by (have := li_1; omega)
      have : (t0.1 6).toInt = (u_5.1 6).toInt := ie_i q102867 6 (by decide)
      have : (u_5.1 6).toInt = (u_2.1 6).toInt := ie_i q102856 6 (by decide)
      have p102871 : (s0.1 6).toInt ≤ (t0.1 6).toInt ∧ (t0.1 6).toInt ≤ N := by omega
      exact k _ _ q102866 p102869 p102870 p102871
    · replace c102859 := q_eq c102859
      rw [li_0] at c102859
      have p102872 : ie [1, 2, 6, 7, 8, 9, 10, 11, 12, 13] u_5.1 s0.1 := (ie_tr q102856 (by decide) (ie_tr q102848 (by decide) (ie_up (ie_refl _ _) (by decide))))
      have p102873 : (1 : Int32).toInt = 0 ∨ (1 : Int32).toInt = 1 := by (have := li_1; omega)
      have : (u_5.1 6).toInt = (u_2.1 6).toInt := ie_i q102856 6 (by decide)
      have p102874 : (s0.1 6).toInt ≤ (u_5.1 6).toInt ∧ (u_5.1 6).toInt ≤ N := by omega
      exact k _ _ q102855 p102872 p102873 p102874
  · replace c102854 := q_eq c102854
    rw [li_0] at c102854
    have p102875 : ie [1, 2, 6, 7, 8, 9, 10, 11, 12, 13] u_2.1 s0.1 := (ie_tr q102848 (by decide) (ie_up (ie_refl _ _) (by decide)))
    have p102876 : (0 : Int32).toInt = 0 ∨ (0 : Int32).toInt = 1 := by (have := li_0; omega)
    have p102877 : (s0.1 6).toInt ≤ (u_2.1 6).toInt ∧ (u_2.1 6).toInt ≤ N := by omega
    exact k _ _ q102847 p102875 p102876 p102877
theorem wq_X7_goesSettle {post : Int32 → Md → Prop} {s0 : Md} {x1 : Int32} {N R W D : Int} (h102878 : mb (N) (R) (W) (D) s0) (h102879 : 0 < D) (h102880 : 0 ≤ (s0.1 6).toInt ∧ (s0.1 6).toInt + 6 ≤ N) (k : ∀ (r : Int32) (u : Md), mb (N) (R) (W) (D) u → ie [1, 2, 6, 7, 8, 9, 10, 11, 12, 13] u.1 s0.1 → (r).toInt = 0 ∨ (r).toInt = 1 → (s0.1 6).toInt ≤ (u.1 6).toInt ∧ (u.1 6).toInt ≤ N → post r u) : wp_X7_goesSettle post s0 x1 := by
  unfold wp_X7_goesSettle
  have := h102878.1
  have := h102878.2.1
  have := h102878.2.2.1
  have := h102878.2.2.2.1
  have p102881 : (s0.1 5).toInt = N := by omega
  have p102882 : 0 ≤ (s0.1 0).toInt ∧ (s0.1 0).toInt ≤ 10 := by omega
  have p102883 : 0 ≤ N ∧ N ≤ 400 := by omega
  have p102884 : 0 ≤ R ∧ R ≤ 6 ∧ 0 ≤ W ∧ W ≤ 10 ∧ 0 ≤ R * W ∧ R * W ≤ 40 ∧ 0 ≤ D ∧ D ≤ 4 ∧ (D ≤ 0 ∨ 1 ≤ R) ∧ (1 ≤ R ∨ R * W = 0) := by omega
  have B102885 : mb (N) (R) (W) (D) ((va_up s0.1 6 ((s0.1 6) + 6)), s0.2.1, s0.2.2.1, s0.2.2.2) := ⟨p102881, p102882, p102883, p102884, h102878.2.2.2.2.1, h102878.2.2.2.2.2.1, h102878.2.2.2.2.2.2.1, h102878.2.2.2.2.2.2.2⟩
  refine wq_X7_isDone B102885 (fun r_1 u_2 q102886 q102887 q102888 => ?_)
  have := q102886.1
  have := q102886.2.1
  replace q102888 : (r_1).toInt = 0 ∨ (r_1).toInt = 1 := q102888
  refine ⟨fun c102889 => ?_, fun c102890 => ?_⟩
  · replace c102889 := q_eq c102889
    rw [li_0] at c102889
    have p102891 : ie [1, 2, 6, 7, 8, 9, 10, 11, 12, 13] u_2.1 s0.1 := (ie_tr q102887 (by decide) (ie_up (ie_refl _ _) (by decide)))
    have p102892 : (1 : Int32).toInt = 0 ∨ (1 : Int32).toInt = 1 := by (have := li_1; omega)
    have : (u_2.1 6).toInt = ((s0.1 6) + 6).toInt := ie_i q102887 6 (by decide)
    have e102893 := tq_addr li_6 (s0.1 6)
    try rw [Int.emod_eq_of_lt (show 0 ≤ (s0.1 6).toInt + 6 + 2147483648 by omega) (show (s0.1 6).toInt + 6 + 2147483648 < 4294967296 by omega)] at e102893
    have p102894 : (s0.1 6).toInt ≤ (u_2.1 6).toInt ∧ (u_2.1 6).toInt ≤ N := by omega
    exact k _ _ q102886 p102891 p102892 p102894
  · replace c102890 := q_neq c102890
    rw [li_0] at c102890
    have p102895 : 0 < D := by omega
    refine wq_X7_settles q102886 p102895 (fun r_4 u_5 q102896 q102897 => ?_)
    have := q102896.1
    have := q102896.2.1
    have p102898 : ie [1, 2, 6, 7, 8, 9, 10, 11, 12, 13] u_5.1 s0.1 := (ie_tr q102897 (by decide) (ie_tr q102887 (by decide) (ie_up (ie_refl _ _) (by decide))))
    have p102899 : (1 : Int32).toInt = 0 ∨ (1 : Int32).toInt = 1 := by (have := li_1; omega)
    have : (u_5.1 6).toInt = (u_2.1 6).toInt := ie_i q102897 6 (by decide)
    have : (u_2.1 6).toInt = ((s0.1 6) + 6).toInt := ie_i q102887 6 (by decide)
    have e102900 := tq_addr li_6 (s0.1 6)
    try rw [Int.emod_eq_of_lt (show 0 ≤ (s0.1 6).toInt + 6 + 2147483648 by omega) (show (s0.1 6).toInt + 6 + 2147483648 < 4294967296 by omega)] at e102900
    have p102901 : (s0.1 6).toInt ≤ (u_5.1 6).toInt ∧ (u_5.1 6).toInt ≤ N := by omega
    exact k _ _ q102896 p102898 p102899 p102901
theorem wq_X7_goesLose {post : Int32 → Md → Prop} {s0 : Md} {x1 : Int32} {N R W D : Int} (h102902 : mb (N) (R) (W) (D) s0) (h102903 : 0 < D) (h102904 : 0 ≤ (s0.1 6).toInt ∧ (s0.1 6).toInt + 4 ≤ N) (k : ∀ (r : Int32) (u : Md), mb (N) (R) (W) (D) u → ie [1, 2, 6, 7, 8, 9, 10, 11, 12, 13] u.1 s0.1 → (r).toInt = 0 ∨ (r).toInt = 1 → (s0.1 6).toInt ≤ (u.1 6).toInt ∧ (u.1 6).toInt ≤ N → post r u) : wp_X7_goesLose post s0 x1 := by
  unfold wp_X7_goesLose
  have := h102902.1
  have := h102902.2.1
  have := h102902.2.2.1
  have := h102902.2.2.2.1
  have p102905 : 0 ≤ (s0.1 6).toInt ∧ (s0.1 6).toInt + 4 ≤ N := by omega
  refine wq_X7_readsLose h102902 p102905 (fun r_1 u_2 q102906 q102907 q102908 q102909 q102910 => ?_)
  have := q102906.1
  have := q102906.2.1
  refine ⟨fun c102911 => ?_, fun c102912 => ?_⟩
  · replace c102911 := q_neq c102911
    rw [li_0] at c102911
    refine wq_X7_isDone q102906 (fun r_4 u_5 q102913 q102914 q102915 => ?_)
    have := q102913.1
    have := q102913.2.1
    refine ⟨fun c102916 => ?_, fun c102917 => ?_⟩
    · replace c102916 := q_eq c102916
      rw [li_0] at c102916
      have p102918 : ie [1, 2, 6, 7, 8, 9, 10, 11, 12, 13] u_5.1 s0.1 := (ie_tr q102914 (by decide) (ie_tr q102907 (by decide) (ie_refl _ _)))
      have p102919 : (1 : Int32).toInt = 0 ∨ (1 : Int32).toInt = 1 := by (have := li_1; omega)
      have : (u_5.1 6).toInt = (u_2.1 6).toInt := ie_i q102914 6 (by decide)
      have p102920 : (s0.1 6).toInt ≤ (u_5.1 6).toInt ∧ (u_5.1 6).toInt ≤ N := by omega
      exact k _ _ q102913 p102918 p102919 p102920
    · replace c102917 := q_neq c102917
      rw [li_0] at c102917
      have : (u_5.1 12).toInt = (u_2.1 12).toInt := ie_i q102914 12 (by decide)
      have p102921 : 0 ≤ (u_5.1 12).toInt ∧ (u_5.1 12).toInt < 40 := by omega
      have : (u_5.1 8).toInt = (u_2.1 8).toInt := ie_i q102914 8 (by decide)
      have := tq_64 (u_5.1 8)
      have p102922 : 0 ≤ (Int32.toInt64 (u_5.1 8)).toInt ∧ (Int32.toInt64 (u_5.1 8)).toInt ≤ 9 := by omega
      refine wq_X7_sets_4 q102913 p102921 p102922 (fun u_8 q102923 q102924 q102925 => ?_)
      have := q102923.1
      have := q102923.2.1
      have p102926 : ie [1, 2, 6, 7, 8, 9, 10, 11, 12, 13] u_8.1 s0.1 := (ie_tr q102924 (by decide) (ie_tr q102914 (by decide) (ie_tr q102907 (by decide) (ie_refl _ _))))
      have p102927 : (1 : Int32).toInt = 0 ∨ (1 : Int32).toInt = 1 := by (have := li_1; omega)
      have : (u_8.1 6).toInt = (u_5.1 6).toInt := ie_i q102924 6 (by decide)
      have : (u_5.1 6).toInt = (u_2.1 6).toInt := ie_i q102914 6 (by decide)
      have p102928 : (s0.1 6).toInt ≤ (u_8.1 6).toInt ∧ (u_8.1 6).toInt ≤ N := by omega
      exact k _ _ q102923 p102926 p102927 p102928
  · replace c102912 := q_eq c102912
    rw [li_0] at c102912
    have p102929 : ie [1, 2, 6, 7, 8, 9, 10, 11, 12, 13] u_2.1 s0.1 := (ie_tr q102907 (by decide) (ie_refl _ _))
    have p102930 : (0 : Int32).toInt = 0 ∨ (0 : Int32).toInt = 1 := by (have := li_0; omega)
    have p102931 : (s0.1 6).toInt ≤ (u_2.1 6).toInt ∧ (u_2.1 6).toInt ≤ N := by omega
    exact k _ _ q102906 p102929 p102930 p102931
