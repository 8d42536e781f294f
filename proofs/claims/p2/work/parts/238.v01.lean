theorem wq_X7_goesWait {post : Int32 → Md → Prop} {s0 : Md} {x1 : Int32} {N R W D : Int} (h103000 : mb (N) (R) (W) (D) s0) (h103001 : 0 < D) (h103002 : 0 ≤ (s0.1 6).toInt ∧ (s0.1 6).toInt + 4 ≤ N) (k : ∀ (r : Int32) (u : Md), mb (N) (R) (W) (D) u → ie [1, 2, 6, 7, 8, 9, 10, 11, 12, 13] u.1 s0.1 → (r).toInt = 0 ∨ (r).toInt = 1 → (s0.1 6).toInt ≤ (u.1 6).toInt ∧ (u.1 6).toInt ≤ N → post r u) : wp_X7_goesWait post s0 x1 := by
  unfold wp_X7_goesWait
  have := h103000.1
  have := h103000.2.1
  have := h103000.2.2.1
  have := h103000.2.2.2.1
  have p103003 : (s0.1 5).toInt = N := by omega
  have p103004 : 0 ≤ (s0.1 0).toInt ∧ (s0.1 0).toInt ≤ 10 := by omega
  have p103005 : 0 ≤ N ∧ N ≤ 400 := by omega
  have p103006 : 0 ≤ R ∧ R ≤ 6 ∧ 0 ≤ W ∧ W ≤ 10 ∧ 0 ≤ R * W ∧ R * W ≤ 40 ∧ 0 ≤ D ∧ D ≤ 4 ∧ (D ≤ 0 ∨ 1 ≤ R) ∧ (1 ≤ R ∨ R * W = 0) := by omega
  have B103007 : mb (N) (R) (W) (D) ((va_up s0.1 6 ((s0.1 6) + 4)), s0.2.1, s0.2.2.1, s0.2.2.2) := ⟨p103003, p103004, p103005, p103006, h103000.2.2.2.2.1, h103000.2.2.2.2.2.1, h103000.2.2.2.2.2.2.1, h103000.2.2.2.2.2.2.2⟩
  have e103008 := tq_addr li_4 (s0.1 6)
  try rw [Int.emod_eq_of_lt (show 0 ≤ (s0.1 6).toInt + 4 + 2147483648 by omega) (show (s0.1 6).toInt + 4 + 2147483648 < 4294967296 by omega)] at e103008
  have p103009 : 0 ≤ ((s0.1 6) + 4).toInt ∧ ((s0.1 6) + 4).toInt ≤ N := by omega
  refine wq_X7_readsNumber B103007 p103009 (fun r_1 u_2 q103010 q103011 q103012 q103013 q103014 q103015 => ?_)
  have := q103010.1
  have := q103010.2.1
  replace q103012 : (r_1).toInt = 0 ∨ (r_1).toInt = 1 := q103012
  replace q103013 : ((s0.1 6) + 4).toInt ≤ (u_2.1 6).toInt ∧ (u_2.1 6).toInt ≤ N := q103013
  replace q103014 : (r_1).toInt = 0 ∨ (((1 : Int32)).toInt ≤ (u_2.1 8).toInt ∧ (u_2.1 8).toInt ≤ ((99 : Int32)).toInt) := q103014
  try simp only [li_1, li_99] at q103014
  refine ⟨fun c103016 => ?_, fun c103017 => ?_⟩
  · replace c103016 := q_neq c103016
    rw [li_0] at c103016
    refine wq_X7_isDone q103010 (fun r_4 u_5 q103018 q103019 q103020 => ?_)
    have := q103018.1
    have := q103018.2.1
    refine ⟨fun c103021 => ?_, fun c103022 => ?_⟩
    · replace c103021 := q_neq c103021
      rw [li_0] at c103021
      have p103023 : 0 < D := by omega
      have p103024 : ie [1, 2] u_5.1 u_5.1 := (ie_refl _ _)
      have : (u_5.1 8).toInt = (u_2.1 8).toInt := ie_i q103019 8 (by decide)
      have p103025 : 0 ≤ (0 : Int32).toInt ∧ (0 : Int32).toInt ≤ (u_5.1 8).toInt ∧ (u_5.1 8).toInt ≤ 99 := by (have := li_0; omega)
      obtain ⟨f103026, g103027⟩ := fu_e 200
      have p103028 : (u_5.1 8).toInt - (0 : Int32).toInt < (f103026 : Int) := by (have := li_0; omega)
      refine ⟨f103026, wq_X7_goesWait_L34 p103023 (fun t0 z1 z2 q103029 q103030 q103031 => ?_) f103026 _ _ _ q103018 p103024 p103025 p103028⟩
      have := q103029.1
      have := q103029.2.1
      have : (t0.1 8).toInt = (u_5.1 8).toInt := ie_i q103030 8 (by decide)
      have p103032 : ie [1, 2, 6, 7, 8, 9, 10, 11, 12, 13] t0.1 s0.1 := (ie_tr q103030 (by decide) (ie_tr q103019 (by decide) (ie_tr q103011 (by decide) (ie_up (ie_refl _ _) (by decide)))))
      have p103033 : (1 : Int32).toInt = 0 ∨ (1 : Int32).toInt = 1 := by (have := li_1; omega)
      have : (t0.1 6).toInt = (u_5.1 6).toInt := ie_i q103030 6 (by decide)
      have : (u_5.1 6).toInt = (u_2.1 6).toInt := ie_i q103019 6 (by decide)
      have p103034 : (s0.1 6).toInt ≤ (t0.1 6).toInt ∧ (t0.1 6).toInt ≤ N := by omega
      exact k _ _ q103029 p103032 p103033 p103034
    · replace c103022 := q_eq c103022
      rw [li_0] at c103022
      have p103035 : ie [1, 2, 6, 7, 8, 9, 10, 11, 12, 13] u_5.1 s0.1 := (ie_tr q103019 (by decide) (ie_tr q103011 (by decide) (ie_up (ie_refl _ _) (by decide))))
      have p103036 : (1 : Int32).toInt = 0 ∨ (1 : Int32).toInt = 1 := by (have := li_1; omega)
      have : (u_5.1 6).toInt = (u_2.1 6).toInt := ie_i q103019 6 (by decide)
      have p103037 : (s0.1 6).toInt ≤ (u_5.1 6).toInt ∧ (u_5.1 6).toInt ≤ N := by omega
      exact k _ _ q103018 p103035 p103036 p103037
  · replace c103017 := q_eq c103017
    rw [li_0] at c103017
    have p103038 : ie [1, 2, 6, 7, 8, 9, 10, 11, 12, 13] u_2.1 s0.1 := (ie_tr q103011 (by decide) (ie_up (ie_refl _ _) (by decide)))
    have p103039 : (0 : Int32).toInt = 0 ∨ (0 : Int32).toInt = 1 := by (have := li_0; omega)
    have p103040 : (s0.1 6).toInt ≤ (u_2.1 6).toInt ∧ (u_2.1 6).toInt ≤ N := by omega
    exact k _ _ q103010 p103038 p103039 p103040
theorem wq_X7_goesSettle {post : Int32 → Md → Prop} {s0 : Md} {x1 : Int32} {N R W D : Int} (h103041 : mb (N) (R) (W) (D) s0) (h103042 : 0 < D) (h103043 : 0 ≤ (s0.1 6).toInt ∧ (s0.1 6).toInt + 6 ≤ N) (k : ∀ (r : Int32) (u : Md), mb (N) (R) (W) (D) u → ie [1, 2, 6, 7, 8, 9, 10, 11, 12, 13] u.1 s0.1 → (r).toInt = 0 ∨ (r).toInt = 1 → (s0.1 6).toInt ≤ (u.1 6).toInt ∧ (u.1 6).toInt ≤ N → post r u) : wp_X7_goesSettle post s0 x1 := by
  unfold wp_X7_goesSettle
  have := h103041.1
  have := h103041.2.1
  have := h103041.2.2.1
  have := h103041.2.2.2.1
  have p103044 : (s0.1 5).toInt = N := by omega
  have p103045 : 0 ≤ (s0.1 0).toInt ∧ (s0.1 0).toInt ≤ 10 := by omega
  have p103046 : 0 ≤ N ∧ N ≤ 400 := by omega
  have p103047 : 0 ≤ R ∧ R ≤ 6 ∧ 0 ≤ W ∧ W ≤ 10 ∧ 0 ≤ R * W ∧ R * W ≤ 40 ∧ 0 ≤ D ∧ D ≤ 4 ∧ (D ≤ 0 ∨ 1 ≤ R) ∧ (1 ≤ R ∨ R * W = 0) := by omega
  have B103048 : mb (N) (R) (W) (D) ((va_up s0.1 6 ((s0.1 6) + 6)), s0.2.1, s0.2.2.1, s0.2.2.2) := ⟨p103044, p103045, p103046, p103047, h103041.2.2.2.2.1, h103041.2.2.2.2.2.1, h103041.2.2.2.2.2.2.1, h103041.2.2.2.2.2.2.2⟩
  refine wq_X7_isDone B103048 (fun r_1 u_2 q103049 q103050 q103051 => ?_)
  have := q103049.1
  have := q103049.2.1
  replace q103051 : (r_1).toInt = 0 ∨ (r_1).toInt = 1 := q103051
  refine ⟨fun c103052 => ?_, fun c103053 => ?_⟩
  · replace c103052 := q_eq c103052
    rw [li_0] at c103052
    have p103054 : ie [1, 2, 6, 7, 8, 9, 10, 11, 12, 13] u_2.1 s0.1 := (ie_tr q103050 (by decide) (ie_up (ie_refl _ _) (by decide)))
    have p103055 : (1 : Int32).toInt = 0 ∨ (1 : Int32).toInt = 1 := by (have := li_1; omega)
    have : (u_2.1 6).toInt = ((s0.1 6) + 6).toInt := ie_i q103050 6 (by decide)
    have e103056 := tq_addr li_6 (s0.1 6)
    try rw [Int.emod_eq_of_lt (show 0 ≤ (s0.1 6).toInt + 6 + 2147483648 by omega) (show (s0.1 6).toInt + 6 + 2147483648 < 4294967296 by omega)] at e103056
    have p103057 : (s0.1 6).toInt ≤ (u_2.1 6).toInt ∧ (u_2.1 6).toInt ≤ N := by omega
    exact k _ _ q103049 p103054 p103055 p103057
  · replace c103053 := q_neq c103053
    rw [li_0] at c103053
    have p103058 : 0 < D := by omega
    refine wq_X7_settles q103049 p103058 (fun r_4 u_5 q103059 q103060 => ?_)
    have := q103059.1
    have := q103059.2.1
    have p103061 : ie [1, 2, 6, 7, 8, 9, 10, 11, 12, 13] u_5.1 s0.1 := (ie_tr q103060 (by decide) (ie_tr q103050 (by decide) (ie_up (ie_refl _ _) (by decide))))
    have p103062 : (1 : Int32).toInt = 0 ∨ (1 : Int32).toInt = 1 := by (have := li_1; omega)
    have : (u_5.1 6).toInt = (u_2.1 6).toInt := ie_i q103060 6 (by decide)
    have : (u_2.1 6).toInt = ((s0.1 6) + 6).toInt := ie_i q103050 6 (by decide)
    have e103063 := tq_addr li_6 (s0.1 6)
    try rw [Int.emod_eq_of_lt (show 0 ≤ (s0.1 6).toInt + 6 + 2147483648 by omega) (show (s0.1 6).toInt + 6 + 2147483648 < 4294967296 by omega)] at e103063
    have p103064 : (s0.1 6).toInt ≤ (u_5.1 6).toInt ∧ (u_5.1 6).toInt ≤ N := by omega
    exact k _ _ q103059 p103061 p103062 p103064
theorem wq_X7_goesLose {post : Int32 → Md → Prop} {s0 : Md} {x1 : Int32} {N R W D : Int} (h103065 : mb (N) (R) (W) (D) s0) (h103066 : 0 < D) (h103067 : 0 ≤ (s0.1 6).toInt ∧ (s0.1 6).toInt + 4 ≤ N) (k : ∀ (r : Int32) (u : Md), mb (N) (R) (W) (D) u → ie [1, 2, 6, 7, 8, 9, 10, 11, 12, 13] u.1 s0.1 → (r).toInt = 0 ∨ (r).toInt = 1 → (s0.1 6).toInt ≤ (u.1 6).toInt ∧ (u.1 6).toInt ≤ N → post r u) : wp_X7_goesLose post s0 x1 := by
  unfold wp_X7_goesLose
  have := h103065.1
  have := h103065.2.1
  have := h103065.2.2.1
  have := h103065.2.2.2.1
  have p103068 : 0 ≤ (s0.1 6).toInt ∧ (s0.1 6).toInt + 4 ≤ N := by omega
  refine wq_X7_readsLose h103065 p103068 (fun r_1 u_2 q103069 q103070 q103071 q103072 q103073 => ?_)
  have := q103069.1
  have := q103069.2.1
  refine ⟨fun c103074 => ?_, fun c103075 => ?_⟩
  · replace c103074 := q_neq c103074
    rw [li_0] at c103074
    refine wq_X7_isDone q103069 (fun r_4 u_5 q103076 q103077 q103078 => ?_)
    have := q103076.1
    have := q103076.2.1
    refine ⟨fun c103079 => ?_, fun c103080 => ?_⟩
    · replace c103079 := q_eq c103079
      rw [li_0] at c103079
      have p103081 : ie [1, 2, 6, 7, 8, 9, 10, 11, 12, 13] u_5.1 s0.1 := (ie_tr q103077 (by decide) (ie_tr q103070 (by decide) (ie_refl _ _)))
      have p103082 : (1 : Int32).toInt = 0 ∨ (1 : Int32).toInt = 1 := by (have := li_1; omega)
      have : (u_5.1 6).toInt = (u_2.1 6).toInt := ie_i q103077 6 (by decide)
      have p103083 : (s0.1 6).toInt ≤ (u_5.1 6).toInt ∧ (u_5.1 6).toInt ≤ N := by omega
      exact k _ _ q103076 p103081 p103082 p103083
    · replace c103080 := q_neq c103080
      rw [li_0] at c103080
      have : (u_5.1 12).toInt = (u_2.1 12).toInt := ie_i q103077 12 (by decide)
      have p103084 : 0 ≤ (u_5.1 12).toInt ∧ (u_5.1 12).toInt < 40 := by omega
      have : (u_5.1 8).toInt = (u_2.1 8).toInt := ie_i q103077 8 (by decide)
      have := tq_64 (u_5.1 8)
      have p103085 : 0 ≤ (Int32.toInt64 (u_5.1 8)).toInt ∧ (Int32.toInt64 (u_5.1 8)).toInt ≤ 9 := by omega
      refine wq_X7_sets_4 q103076 p103084 p103085 (fun u_8 q103086 q103087 q103088 => ?_)
      have := q103086.1
      have := q103086.2.1
      have p103089 : ie [1, 2, 6, 7, 8, 9, 10, 11, 12, 13] u_8.1 s0.1 := (ie_tr q103087 (by decide) (ie_tr q103077 (by decide) (ie_tr q103070 (by decide) (ie_refl _ _))))
      have p103090 : (1 : Int32).toInt = 0 ∨ (1 : Int32).toInt = 1 := by (have := li_1; omega)
      have : (u_8.1 6).toInt = (u_5.1 6).toInt := ie_i q103087 6 (by decide)
      have : (u_5.1 6).toInt = (u_2.1 6).toInt := ie_i q103077 6 (by decide)
      have p103091 : (s0.1 6).toInt ≤ (u_8.1 6).toInt ∧ (u_8.1 6).toInt ≤ N := by omega
      exact k _ _ q103086 p103089 p103090 p103091
  · replace c103075 := q_eq c103075
    rw [li_0] at c103075
    have p103092 : ie [1, 2, 6, 7, 8, 9, 10, 11, 12, 13] u_2.1 s0.1 := (ie_tr q103070 (by decide) (ie_refl _ _))
    have p103093 : (0 : Int32).toInt = 0 ∨ (0 : Int32).toInt = 1 := by (have := li_0; omega)
    have p103094 : (s0.1 6).toInt ≤ (u_2.1 6).toInt ∧ (u_2.1 6).toInt ≤ N := by omega
    exact k _ _ q103069 p103092 p103093 p103094
