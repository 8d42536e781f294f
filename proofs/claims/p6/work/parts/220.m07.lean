theorem wq_X0_wantHome {post : Bd → Prop} {s0 : Bd} {x1 : Int32} {R W : Int} (h956 : bi (R) (W) s0) (h957 : 0 ≤ (x1).toInt ∧ (x1).toInt < R) (k : ∀ (u : Bd), bi (R) (W) u → post u) : wp_X0_wantHome post s0 x1 := by
  unfold wp_X0_wantHome
  have := h956.1
  have := h956.2.1
  have := h956.2.2.1
  have := h956.2.2.2.1
  have := h956.2.2.2.2.2.2.2.2.2
  have p958 : 0 ≤ (x1).toInt ∧ (x1).toInt < R := by omega
  have p959 : 0 ≤ (0 : Int32).toInt ∧ (0 : Int32).toInt ≤ W := by (have := li_0; omega)
  obtain ⟨f960, g961⟩ := fu_e 50
  have p962 : W - (0 : Int32).toInt < (f960 : Int) := by (have := li_0; omega)
  refine ⟨f960, wq_X0_wantHome_L2 (fun t0 z1 z2 q963 q964 q965 => ?_) f960 _ _ _ h956 p958 p959 p962⟩
  have := q963.1
  have := q963.2.1
  have := q963.2.2.1
  have := q963.2.2.2.2.2.2.2.2.2
  exact k _ q963
theorem wq_X0_showSigns_L3 {s1 : Tp} {post : Bd → Prop} {e86 : Bd → Int32 → Int32 → Int32 → Int32 → Prop} {N R W : Int} (h966 : tz (N) s1) (ke86 : ∀ (t0 : Bd) (z1 : Int32) (z3 : Int32) (z4 : Int32) (z5 : Int32), bi (R) (W) t0 → 0 ≤ (z1).toInt ∧ (z1).toInt < R → 0 ≤ (z5).toInt ∧ (z5).toInt ≤ W → e86 t0 z1 z3 z4 z5) : ∀ (n : Nat) (t0 : Bd) (z1 : Int32) (z3 : Int32) (z4 : Int32) (z5 : Int32), bi (R) (W) t0 → 0 ≤ (z1).toInt ∧ (z1).toInt < R → 0 ≤ (z5).toInt ∧ (z5).toInt ≤ W → W - (z5).toInt < (n : Int) → wp_X0_showSigns_L3 s1 post e86 n t0 z1 z3 z4 z5 := by
  have := h966.1
  have := h966.2
  intro n
  induction n with
  | zero =>
    intro t0 z1 z3 z4 z5 i967 i968 i969 i970
    have := i967.1
    have := i967.2.1
    have := i967.2.2.1
    have := i967.2.2.2.1
    have := i967.2.2.2.2.2.2.2.2.2
    exfalso
    omega
  | succ n ih =>
    intro t0 z1 z3 z4 z5 i967 i968 i969 i970
    unfold wp_X0_showSigns_L3
    have := i967.1
    have := i967.2.1
    have := i967.2.2.1
    have := i967.2.2.2.1
    have := i967.2.2.2.2.2.2.2.2.2
    refine ⟨fun c971 => ?_, fun c972 => ?_⟩
    · replace c971 := q_le c971
      have p973 : 0 ≤ (z1).toInt ∧ (z1).toInt < R := by omega
      have p974 : 0 ≤ (z5).toInt ∧ (z5).toInt ≤ W := by omega
      exact ke86 _ _ _ _ _ i967 p973 p974
    · replace c972 := q_nle c972
      have := rw_l (a := z1) (b := (t0.1 1)) (R := R) (W := W) (by omega) (by omega) (by omega)
      have e975 := tq_add (z1 * (t0.1 1)) z5
      try rw [Int.emod_eq_of_lt (show 0 ≤ (z1 * (t0.1 1)).toInt + (z5).toInt + 2147483648 by omega) (show (z1 * (t0.1 1)).toInt + (z5).toInt + 2147483648 < 4294967296 by omega)] at e975
      have p976 : 0 ≤ ((z1 * (t0.1 1)) + z5).toInt ∧ ((z1 * (t0.1 1)) + z5).toInt < 40 := by omega
      refine wq_X0_flapFor i967 h966 p976 (fun r_2 q977 => ?_)
      refine ⟨fun c978 => ?_, fun c979 => ?_⟩
      · replace c978 := q_eq c978
        rw [li_m1] at c978
        have v980 : vp_in ((z1 * (t0.1 1)) + z5) 40 := vi (by omega) (by omega)
        refine ⟨v980, ?_⟩
        refine ⟨v980, ?_⟩
        refine ⟨v980, ?_⟩
        refine ⟨v980, ?_⟩
        have p981 : (t0.1 0).toInt = R := by omega
        have p982 : (t0.1 1).toInt = W := by omega
        have p983 : 0 ≤ (t0.1 3).toInt ∧ (t0.1 3).toInt ≤ 4 := by omega
        have p984 : 0 ≤ R ∧ R ≤ 6 ∧ 0 ≤ W ∧ W ≤ 10 ∧ 0 ≤ R * W ∧ R * W ≤ 40 := by omega
        have p985 : ar 4 (0) (40) (t0.2.1 1) := i967.2.2.2.2.1
        have p986 : ar 40 (0) (3) (t0.2.1 3) := i967.2.2.2.2.2.1
        have := ar_at (i967.2.2.2.2.2.2.2.2.1) v980
        have p987 : ar 40 (0) (39) (upd (t0.2.1 4) (Int32.toNatClampNeg ((z1 * (t0.1 1)) + z5)) (t0.2.1 6 (Int32.toNatClampNeg ((z1 * (t0.1 1)) + z5)))) := (ar_upd i967.2.2.2.2.2.2.1 (by omega) (by omega))
        have p988 : ar 40 (0) (39) (upd (t0.2.1 5) (Int32.toNatClampNeg ((z1 * (t0.1 1)) + z5)) (t0.2.1 6 (Int32.toNatClampNeg ((z1 * (t0.1 1)) + z5)))) := (ar_upd i967.2.2.2.2.2.2.2.1 (by omega) (by omega))
        have p989 : ar 40 (0) (39) (t0.2.1 6) := i967.2.2.2.2.2.2.2.2.1
        have p990 : t0.2.2.2.1 ≤ 6400 := by omega
        have B991 : bi (R) (W) (t0.1, (va_up (va_up t0.2.1 4 (upd (t0.2.1 4) (Int32.toNatClampNeg ((z1 * (t0.1 1)) + z5)) (t0.2.1 6 (Int32.toNatClampNeg ((z1 * (t0.1 1)) + z5))))) 5 (upd (t0.2.1 5) (Int32.toNatClampNeg ((z1 * (t0.1 1)) + z5)) (t0.2.1 6 (Int32.toNatClampNeg ((z1 * (t0.1 1)) + z5))))), t0.2.2.1, t0.2.2.2.1, t0.2.2.2.2) := ⟨p981, p982, p983, p984, p985, p986, p987, p988, p989, p990⟩
        have p992 : 0 ≤ (z1).toInt ∧ (z1).toInt < R := by omega
        have e993 := tq_addr li_1 z5
        try rw [Int.emod_eq_of_lt (show 0 ≤ (z5).toInt + 1 + 2147483648 by omega) (show (z5).toInt + 1 + 2147483648 < 4294967296 by omega)] at e993
        have p994 : 0 ≤ (z5 + 1).toInt ∧ (z5 + 1).toInt ≤ W := by omega
        have p995 : W - (z5 + 1).toInt < ((n : Nat) : Int) := by (omega)
        exact ih _ _ _ _ _ B991 p992 p994 p995
      · replace c979 := q_neq c979
        rw [li_m1] at c979
        have v996 : vp_in ((z1 * (t0.1 1)) + z5) 40 := vi (by omega) (by omega)
        refine ⟨v996, ?_⟩
        refine ⟨v996, ?_⟩
        refine ⟨v996, ?_⟩
        refine ⟨v996, ?_⟩
        refine ⟨v996, ?_⟩
        have p997 : (t0.1 0).toInt = R := by omega
        have p998 : (t0.1 1).toInt = W := by omega
        have p999 : 0 ≤ (t0.1 3).toInt ∧ (t0.1 3).toInt ≤ 4 := by omega
        have p1000 : 0 ≤ R ∧ R ≤ 6 ∧ 0 ≤ W ∧ W ≤ 10 ∧ 0 ≤ R * W ∧ R * W ≤ 40 := by omega
        have p1001 : ar 4 (0) (40) (t0.2.1 1) := i967.2.2.2.2.1
        have p1002 : ar 40 (0) (3) (t0.2.1 3) := i967.2.2.2.2.2.1
        have := upd_i (t0.2.1 6) (Int32.toNatClampNeg ((z1 * (t0.1 1)) + z5)) r_2
        have p1003 : ar 40 (0) (39) (upd (t0.2.1 4) (Int32.toNatClampNeg ((z1 * (t0.1 1)) + z5)) (upd (t0.2.1 6) (Int32.toNatClampNeg ((z1 * (t0.1 1)) + z5)) r_2 (Int32.toNatClampNeg ((z1 * (t0.1 1)) + z5)))) := (ar_upd i967.2.2.2.2.2.2.1 (by omega) (by omega))
        have p1004 : ar 40 (0) (39) (upd (t0.2.1 5) (Int32.toNatClampNeg ((z1 * (t0.1 1)) + z5)) (upd (t0.2.1 6) (Int32.toNatClampNeg ((z1 * (t0.1 1)) + z5)) r_2 (Int32.toNatClampNeg ((z1 * (t0.1 1)) + z5)))) := (ar_upd i967.2.2.2.2.2.2.2.1 (by omega) (by omega))
        have p1005 : ar 40 (0) (39) (upd (t0.2.1 6) (Int32.toNatClampNeg ((z1 * (t0.1 1)) + z5)) r_2) := (ar_upd i967.2.2.2.2.2.2.2.2.1 (by omega) (by omega))
        have p1006 : t0.2.2.2.1 ≤ 6400 := by omega
        have B1007 : bi (R) (W) (t0.1, (va_up (va_up (va_up t0.2.1 4 (upd (t0.2.1 4) (Int32.toNatClampNeg ((z1 * (t0.1 1)) + z5)) (upd (t0.2.1 6) (Int32.toNatClampNeg ((z1 * (t0.1 1)) + z5)) r_2 (Int32.toNatClampNeg ((z1 * (t0.1 1)) + z5))))) 5 (upd (t0.2.1 5) (Int32.toNatClampNeg ((z1 * (t0.1 1)) + z5)) (upd (t0.2.1 6) (Int32.toNatClampNeg ((z1 * (t0.1 1)) + z5)) r_2 (Int32.toNatClampNeg ((z1 * (t0.1 1)) + z5))))) 6 (upd (t0.2.1 6) (Int32.toNatClampNeg ((z1 * (t0.1 1)) + z5)) r_2)), t0.2.2.1, t0.2.2.2.1, t0.2.2.2.2) := ⟨p997, p998, p999, p1000, p1001, p1002, p1003, p1004, p1005, p1006⟩
        have p1008 : 0 ≤ (z1).toInt ∧ (z1).toInt < R := by omega
        have e1009 := tq_addr li_1 z5
        try rw [Int.emod_eq_of_lt (show 0 ≤ (z5).toInt + 1 + 2147483648 by omega) (show (z5).toInt + 1 + 2147483648 < 4294967296 by omega)] at e1009
        have p1010 : 0 ≤ (z5 + 1).toInt ∧ (z5 + 1).toInt ≤ W := by omega
        have p1011 : W - (z5 + 1).toInt < ((n : Nat) : Int) := by (omega)
        exact ih _ _ _ _ _ B1007 p1008 p1010 p1011
theorem wq_X0_showSigns {post : Bd → Prop} {s0 : Bd} {s1 : Tp} {x1 : Int32} {x3 : Int32} {x4 : Int32} {R W N : Int} (h1012 : bi (R) (W) s0) (h1013 : tz (N) s1) (h1014 : 0 ≤ (x1).toInt ∧ (x1).toInt < R) (k : ∀ (u : Bd), bi (R) (W) u → post u) : wp_X0_showSigns post s0 s1 x1 x3 x4 := by
  unfold wp_X0_showSigns
  have := h1012.1
  have := h1012.2.1
  have := h1012.2.2.1
  have := h1012.2.2.2.1
  have := h1012.2.2.2.2.2.2.2.2.2
  have := h1013.1
  have := h1013.2
  have p1015 : 0 ≤ (x1).toInt ∧ (x1).toInt < R := by omega
  have p1016 : 0 ≤ (0 : Int32).toInt ∧ (0 : Int32).toInt ≤ W := by (have := li_0; omega)
  obtain ⟨f1017, g1018⟩ := fu_e 50
  have p1019 : W - (0 : Int32).toInt < (f1017 : Int) := by (have := li_0; omega)
  refine ⟨f1017, wq_X0_showSigns_L3 h1013 (fun t0 z1 z3 z4 z5 q1020 q1021 q1022 => ?_) f1017 _ _ _ _ _ h1012 p1015 p1016 p1019⟩
  have := q1020.1
  have := q1020.2.1
  have := q1020.2.2.1
  have := q1020.2.2.2.2.2.2.2.2.2
  exact k _ q1020
theorem wq_X6_behind {post : Int32 → Prop} {x0 : Int32} {x1 : Int32} (h1023 : -1 ≤ (x0).toInt ∧ (x0).toInt ≤ 1000) (k : ∀ (r : Int32), (r).toInt = 0 ∨ ((r).toInt = (x0).toInt + 1 ∧ (x0).toInt + 1 < (x1).toInt) → post r) : wp_X6_behind post x0 x1 := by
  unfold wp_X6_behind
  refine ⟨fun c1024 => ?_, fun c1025 => ?_⟩
  · replace c1024 := q_le c1024
    have e1026 := tq_addr li_1 x0
    try rw [Int.emod_eq_of_lt (show 0 ≤ (x0).toInt + 1 + 2147483648 by omega) (show (x0).toInt + 1 + 2147483648 < 4294967296 by omega)] at e1026
    have p1027 : (0 : Int32).toInt = 0 ∨ ((0 : Int32).toInt = (x0).toInt + 1 ∧ (x0).toInt + 1 < (x1).toInt) := by (have := li_0; omega)
    exact k _ p1027
  · replace c1025 := q_nle c1025
    have e1028 := tq_addr li_1 x0
    try rw [Int.emod_eq_of_lt (show 0 ≤ (x0).toInt + 1 + 2147483648 by omega) (show (x0).toInt + 1 + 2147483648 < 4294967296 by omega)] at e1028
    have p1029 : (x0 + 1).toInt = 0 ∨ ((x0 + 1).toInt = (x0).toInt + 1 ∧ (x0).toInt + 1 < (x1).toInt) := by omega
    exact k _ p1029
theorem wq_X0_stepOn {post : Int32 → Bd → Prop} {s0 : Bd} {x1 : Int32} {R W : Int} (h1030 : bi (R) (W) s0) (h1031 : 0 ≤ (x1).toInt ∧ (x1).toInt < 40) (k : ∀ (r : Int32) (u : Bd), bi (R) (W) u → post r u) : wp_X0_stepOn post s0 x1 := by
  unfold wp_X0_stepOn
  have := h1030.1
  have := h1030.2.1
  have := h1030.2.2.1
  have := h1030.2.2.2.1
  have := h1030.2.2.2.2.2.2.2.2.2
  have p1032 : 0 ≤ (x1).toInt ∧ (x1).toInt < 40 := by omega
  refine wq_X0_flapsOf h1030 p1032 (fun r_1 q1033 => ?_)
  have v1034 : vp_in x1 40 := vi (by omega) (by omega)
  refine ⟨v1034, ?_⟩
  have := ar_at (h1030.2.2.2.2.2.2.2.1) v1034
  have p1035 : -1 ≤ (s0.2.1 5 (Int32.toNatClampNeg x1)).toInt ∧ (s0.2.1 5 (Int32.toNatClampNeg x1)).toInt ≤ 1000 := by omega
  refine wq_X6_behind p1035 (fun r_4 q1036 => ?_)
  refine ⟨v1034, ?_⟩
  refine ⟨fun c1037 => ?_, fun c1038 => ?_⟩
  · replace c1037 := q_le c1037
    rw [li_0] at c1037
    refine ⟨v1034, ?_⟩
    have := ar_at (h1030.2.2.2.2.2.2.1) v1034
    have p1039 : -1 ≤ (s0.2.1 4 (Int32.toNatClampNeg x1)).toInt ∧ (s0.2.1 4 (Int32.toNatClampNeg x1)).toInt ≤ 1000 := by omega
    refine wq_X6_behind p1039 (fun r_9 q1040 => ?_)
    refine ⟨v1034, ?_⟩
    refine ⟨v1034, ?_⟩
    refine ⟨fun c1041 => ?_, fun c1042 => ?_⟩
    · replace c1041 := q_neq c1041
      rw [li_0] at c1041
      have := upd_i (s0.2.1 4) (Int32.toNatClampNeg x1) r_9
      refine ⟨v1034, ?_⟩
      refine ⟨v1034, ?_⟩
      refine ⟨v1034, ?_⟩
      refine ⟨v1034, ?_⟩
      refine ⟨v1034, ?_⟩
      have p1043 : (s0.1 0).toInt = R := by omega
      have p1044 : (s0.1 1).toInt = W := by omega
      have p1045 : 0 ≤ (s0.1 3).toInt ∧ (s0.1 3).toInt ≤ 4 := by omega
      have p1046 : 0 ≤ R ∧ R ≤ 6 ∧ 0 ≤ W ∧ W ≤ 10 ∧ 0 ≤ R * W ∧ R * W ≤ 40 := by omega
      have p1047 : ar 4 (0) (40) (s0.2.1 1) := h1030.2.2.2.2.1
      have p1048 : ar 40 (0) (3) (s0.2.1 3) := h1030.2.2.2.2.2.1
      have p1049 : ar 40 (0) (39) (upd (s0.2.1 4) (Int32.toNatClampNeg x1) r_9) := (ar_upd h1030.2.2.2.2.2.2.1 (by omega) (by omega))
      have p1050 : ar 40 (0) (39) (upd (s0.2.1 5) (Int32.toNatClampNeg x1) r_4) := (ar_upd h1030.2.2.2.2.2.2.2.1 (by omega) (by omega))
      have p1051 : ar 40 (0) (39) (s0.2.1 6) := h1030.2.2.2.2.2.2.2.2.1
      have p1052 : s0.2.2.2.1 ≤ 6400 := by omega
      have B1053 : bi (R) (W) (s0.1, (va_up (va_up (va_up (va_up s0.2.1 4 (upd (s0.2.1 4) (Int32.toNatClampNeg x1) r_9)) 5 (upd (s0.2.1 5) (Int32.toNatClampNeg x1) r_4)) 8 (upd (s0.2.1 8) (Int32.toNatClampNeg x1) ((s0.2.1 8 (Int32.toNatClampNeg x1)) + 1))) 9 (upd (s0.2.1 9) (Int32.toNatClampNeg x1) ((s0.2.1 9 (Int32.toNatClampNeg x1)) + 0))), s0.2.2.1, s0.2.2.2.1, s0.2.2.2.2) := ⟨p1043, p1044, p1045, p1046, p1047, p1048, p1049, p1050, p1051, p1052⟩
      exact k _ _ B1053
    · replace c1042 := q_eq c1042
      rw [li_0] at c1042
      have := upd_i (s0.2.1 4) (Int32.toNatClampNeg x1) r_9
      refine ⟨v1034, ?_⟩
      refine ⟨v1034, ?_⟩
      refine ⟨v1034, ?_⟩
      refine ⟨v1034, ?_⟩
      refine ⟨v1034, ?_⟩
      have p1054 : (s0.1 0).toInt = R := by omega
      have p1055 : (s0.1 1).toInt = W := by omega
      have p1056 : 0 ≤ (s0.1 3).toInt ∧ (s0.1 3).toInt ≤ 4 := by omega
      have p1057 : 0 ≤ R ∧ R ≤ 6 ∧ 0 ≤ W ∧ W ≤ 10 ∧ 0 ≤ R * W ∧ R * W ≤ 40 := by omega
      have p1058 : ar 4 (0) (40) (s0.2.1 1) := h1030.2.2.2.2.1
      have p1059 : ar 40 (0) (3) (s0.2.1 3) := h1030.2.2.2.2.2.1
      have p1060 : ar 40 (0) (39) (upd (s0.2.1 4) (Int32.toNatClampNeg x1) r_9) := (ar_upd h1030.2.2.2.2.2.2.1 (by omega) (by omega))
      have p1061 : ar 40 (0) (39) (upd (s0.2.1 5) (Int32.toNatClampNeg x1) 0) := (ar_upd h1030.2.2.2.2.2.2.2.1 (by decide) (by decide))
      have p1062 : ar 40 (0) (39) (s0.2.1 6) := h1030.2.2.2.2.2.2.2.2.1
      have p1063 : s0.2.2.2.1 ≤ 6400 := by omega
      have B1064 : bi (R) (W) (s0.1, (va_up (va_up (va_up (va_up s0.2.1 4 (upd (s0.2.1 4) (Int32.toNatClampNeg x1) r_9)) 5 (upd (s0.2.1 5) (Int32.toNatClampNeg x1) 0)) 8 (upd (s0.2.1 8) (Int32.toNatClampNeg x1) ((s0.2.1 8 (Int32.toNatClampNeg x1)) + 1))) 9 (upd (s0.2.1 9) (Int32.toNatClampNeg x1) ((s0.2.1 9 (Int32.toNatClampNeg x1)) + r_4))), s0.2.2.1, s0.2.2.2.1, s0.2.2.2.2) := ⟨p1054, p1055, p1056, p1057, p1058, p1059, p1060, p1061, p1062, p1063⟩
      exact k _ _ B1064
  · replace c1038 := q_nle c1038
    rw [li_0] at c1038
    refine ⟨v1034, ?_⟩
    refine ⟨v1034, ?_⟩
    refine ⟨v1034, ?_⟩
    refine ⟨v1034, ?_⟩
    refine ⟨v1034, ?_⟩
    refine ⟨v1034, ?_⟩
    refine ⟨v1034, ?_⟩
    have p1065 : (s0.1 0).toInt = R := by omega
    have p1066 : (s0.1 1).toInt = W := by omega
    have p1067 : 0 ≤ (s0.1 3).toInt ∧ (s0.1 3).toInt ≤ 4 := by omega
    have p1068 : 0 ≤ R ∧ R ≤ 6 ∧ 0 ≤ W ∧ W ≤ 10 ∧ 0 ≤ R * W ∧ R * W ≤ 40 := by omega
    have p1069 : ar 4 (0) (40) (s0.2.1 1) := h1030.2.2.2.2.1
    have p1070 : ar 40 (0) (3) (s0.2.1 3) := h1030.2.2.2.2.2.1
    have p1071 : ar 40 (0) (39) (s0.2.1 4) := h1030.2.2.2.2.2.2.1
    have p1072 : ar 40 (0) (39) (upd (s0.2.1 5) (Int32.toNatClampNeg x1) r_4) := (ar_upd h1030.2.2.2.2.2.2.2.1 (by omega) (by omega))
    have p1073 : ar 40 (0) (39) (s0.2.1 6) := h1030.2.2.2.2.2.2.2.2.1
    have p1074 : s0.2.2.2.1 ≤ 6400 := by omega
    have B1075 : bi (R) (W) (s0.1, (va_up (va_up (va_up (va_up s0.2.1 5 (upd (s0.2.1 5) (Int32.toNatClampNeg x1) r_4)) 7 (upd (s0.2.1 7) (Int32.toNatClampNeg x1) ((s0.2.1 7 (Int32.toNatClampNeg x1)) - 1))) 8 (upd (s0.2.1 8) (Int32.toNatClampNeg x1) ((s0.2.1 8 (Int32.toNatClampNeg x1)) + 1))) 9 (upd (s0.2.1 9) (Int32.toNatClampNeg x1) ((s0.2.1 9 (Int32.toNatClampNeg x1)) + 0))), s0.2.2.1, s0.2.2.2.1, s0.2.2.2.2) := ⟨p1065, p1066, p1067, p1068, p1069, p1070, p1071, p1072, p1073, p1074⟩
    exact k _ _ B1075
theorem wq_X0_leftOfAll_L4 {s0 : Bd} {post : Int32 → Prop} {e40 : Int32 → Int32 → Int32 → Prop} {R W : Int} (h1076 : bi (R) (W) s0) (ke40 : ∀ (z1 : Int32) (z2 : Int32) (z3 : Int32), 0 ≤ (z3).toInt ∧ (z3).toInt ≤ R * W → e40 z1 z2 z3) : ∀ (n : Nat) (z1 : Int32) (z2 : Int32) (z3 : Int32), 0 ≤ (z3).toInt ∧ (z3).toInt ≤ R * W → R * W - (z3).toInt < (n : Int) → wp_X0_leftOfAll_L4 s0 post e40 n z1 z2 z3 := by
  have := h1076.1
  have := h1076.2.1
  have := h1076.2.2.1
  have := h1076.2.2.2.1
  have := h1076.2.2.2.2.2.2.2.2.2
  intro n
  induction n with
  | zero =>
    intro z1 z2 z3 i1077 i1078
    exfalso
    omega
  | succ n ih =>
    intro z1 z2 z3 i1077 i1078
    unfold wp_X0_leftOfAll_L4
    refine wq_X0_cells h1076 (fun r_1 q1079 => ?_)
    refine ⟨fun c1080 => ?_, fun c1081 => ?_⟩
    · replace c1080 := q_le c1080
      have p1082 : 0 ≤ (z3).toInt ∧ (z3).toInt ≤ R * W := by omega
      exact ke40 _ _ _ p1082
    · replace c1081 := q_nle c1081
      have p1083 : 0 ≤ (z3).toInt ∧ (z3).toInt < 40 := by omega
      refine wq_X0_leftOf h1076 p1083 (fun r_4 => ?_)
      refine ⟨fun c1084 => ?_, fun c1085 => ?_⟩
      · replace c1084 := q_eq c1084
        rw [li_0] at c1084
        have e1086 := tq_addr li_1 z3
        try rw [Int.emod_eq_of_lt (show 0 ≤ (z3).toInt + 1 + 2147483648 by omega) (show (z3).toInt + 1 + 2147483648 < 4294967296 by omega)] at e1086
        have p1087 : 0 ≤ (z3 + 1).toInt ∧ (z3 + 1).toInt ≤ R * W := by omega
        have p1088 : R * W - (z3 + 1).toInt < ((n : Nat) : Int) := by (omega)
        exact ih _ _ _ p1087 p1088
      · replace c1085 := q_neq c1085
        rw [li_0] at c1085
        have p1089 : 0 ≤ (z3).toInt ∧ (z3).toInt < 40 := by omega
        refine wq_X0_currentOf h1076 p1089 (fun r_7 => ?_)
        have e1090 := tq_addr li_1 z3
        try rw [Int.emod_eq_of_lt (show 0 ≤ (z3).toInt + 1 + 2147483648 by omega) (show (z3).toInt + 1 + 2147483648 < 4294967296 by omega)] at e1090
        have p1091 : 0 ≤ (z3 + 1).toInt ∧ (z3 + 1).toInt ≤ R * W := by omega
        have p1092 : R * W - (z3 + 1).toInt < ((n : Nat) : Int) := by (omega)
        exact ih _ _ _ p1091 p1092
theorem wq_X0_leftOfAll {post : Int32 → Prop} {s0 : Bd} {x1 : Int32} {R W : Int} (h1093 : bi (R) (W) s0) (k : ∀ (r : Int32), post r) : wp_X0_leftOfAll post s0 x1 := by
  unfold wp_X0_leftOfAll
  have := h1093.1
  have := h1093.2.1
  have := h1093.2.2.1
  have := h1093.2.2.2.1
  have := h1093.2.2.2.2.2.2.2.2.2
  have p1094 : 0 ≤ (0 : Int32).toInt ∧ (0 : Int32).toInt ≤ R * W := by (have := li_0; omega)
  obtain ⟨f1095, g1096⟩ := fu_e 50
  have p1097 : R * W - (0 : Int32).toInt < (f1095 : Int) := by (have := li_0; omega)
  refine ⟨f1095, wq_X0_leftOfAll_L4 h1093 (fun z1 z2 z3 q1098 => ?_) f1095 _ _ _ p1094 p1097⟩
  exact k _
theorem wq_X0_mostLeft_L4 {s0 : Bd} {post : Int32 → Prop} {e28 : Int32 → Int32 → Prop} {R W : Int} (h1099 : bi (R) (W) s0) (ke28 : ∀ (z1 : Int32) (z2 : Int32), 0 ≤ (z2).toInt ∧ (z2).toInt ≤ R * W → e28 z1 z2) : ∀ (n : Nat) (z1 : Int32) (z2 : Int32), 0 ≤ (z2).toInt ∧ (z2).toInt ≤ R * W → R * W - (z2).toInt < (n : Int) → wp_X0_mostLeft_L4 s0 post e28 n z1 z2 := by
  have := h1099.1
  have := h1099.2.1
  have := h1099.2.2.1
  have := h1099.2.2.2.1
  have := h1099.2.2.2.2.2.2.2.2.2
  intro n
  induction n with
  | zero =>
    intro z1 z2 i1100 i1101
    exfalso
    omega
  | succ n ih =>
    intro z1 z2 i1100 i1101
    unfold wp_X0_mostLeft_L4
    refine wq_X0_cells h1099 (fun r_1 q1102 => ?_)
    refine ⟨fun c1103 => ?_, fun c1104 => ?_⟩
    · replace c1103 := q_le c1103
      have p1105 : 0 ≤ (z2).toInt ∧ (z2).toInt ≤ R * W := by omega
      exact ke28 _ _ p1105
    · replace c1104 := q_nle c1104
      have p1106 : 0 ≤ (z2).toInt ∧ (z2).toInt < 40 := by omega
      refine wq_X0_leftOf h1099 p1106 (fun r_4 => ?_)
      have e1107 := tq_addr li_1 z2
      try rw [Int.emod_eq_of_lt (show 0 ≤ (z2).toInt + 1 + 2147483648 by omega) (show (z2).toInt + 1 + 2147483648 < 4294967296 by omega)] at e1107
      have p1108 : 0 ≤ (z2 + 1).toInt ∧ (z2 + 1).toInt ≤ R * W := by omega
      have p1109 : R * W - (z2 + 1).toInt < ((n : Nat) : Int) := by (omega)
      exact ih _ _ p1108 p1109
theorem wq_X0_mostLeft {post : Int32 → Prop} {s0 : Bd} {R W : Int} (h1110 : bi (R) (W) s0) (k : ∀ (r : Int32), post r) : wp_X0_mostLeft post s0 := by
  unfold wp_X0_mostLeft
  have := h1110.1
  have := h1110.2.1
  have := h1110.2.2.1
  have := h1110.2.2.2.1
  have := h1110.2.2.2.2.2.2.2.2.2
  have p1111 : 0 ≤ (0 : Int32).toInt ∧ (0 : Int32).toInt ≤ R * W := by (have := li_0; omega)
  obtain ⟨f1112, g1113⟩ := fu_e 50
  have p1114 : R * W - (0 : Int32).toInt < (f1112 : Int) := by (have := li_0; omega)
  refine ⟨f1112, wq_X0_mostLeft_L4 h1110 (fun z1 z2 q1115 => ?_) f1112 _ _ p1111 p1114⟩
  exact k _
theorem wq_X0_emptyLog {post : Bd → Prop} {s0 : Bd} {R W : Int} (h1116 : bi (R) (W) s0) (k : ∀ (u : Bd), bi (R) (W) u → post u) : wp_X0_emptyLog post s0 := by
  unfold wp_X0_emptyLog
  have := h1116.1
  have := h1116.2.1
  have := h1116.2.2.1
  have := h1116.2.2.2.1
  have := h1116.2.2.2.2.2.2.2.2.2
  refine wq_X0_entryCount h1116 (fun r_1 q1117 => ?_)
  refine ⟨fun c1118 => ?_, fun c1119 => ?_⟩
  · replace c1118 := q_le c1118
    have := tq_ofn (n := s0.2.2.2.1) (by omega)
    refine ⟨(by omega), ?_⟩
    have p1120 : (s0.1 0).toInt = R := by omega
    have p1121 : (s0.1 1).toInt = W := by omega
    have p1122 : 0 ≤ (s0.1 3).toInt ∧ (s0.1 3).toInt ≤ 4 := by omega
    have p1123 : 0 ≤ R ∧ R ≤ 6 ∧ 0 ≤ W ∧ W ≤ 10 ∧ 0 ≤ R * W ∧ R * W ≤ 40 := by omega
    have p1124 : ar 4 (0) (40) (s0.2.1 1) := h1116.2.2.2.2.1
    have p1125 : ar 40 (0) (3) (s0.2.1 3) := h1116.2.2.2.2.2.1
    have p1126 : ar 40 (0) (39) (s0.2.1 4) := h1116.2.2.2.2.2.2.1
    have p1127 : ar 40 (0) (39) (s0.2.1 5) := h1116.2.2.2.2.2.2.2.1
    have p1128 : ar 40 (0) (39) (s0.2.1 6) := h1116.2.2.2.2.2.2.2.2.1
    have p1129 : s0.2.2.2.1 ≤ 6400 := by omega
    have B1130 : bi (R) (W) (s0.1, s0.2.1, s0.2.2.1, s0.2.2.2.1, (fl_f s0.2.2.2.1 0 s0.2.2.2.2)) := ⟨p1120, p1121, p1122, p1123, p1124, p1125, p1126, p1127, p1128, p1129⟩
    exact k _ B1130
  · replace c1119 := q_nle c1119
    have := tq_ofn (n := s0.2.2.2.1) (by omega)
    refine ⟨(z_nlt (by have := li_0; omega)), ?_⟩
    refine ⟨(tn_le (by omega)), ?_⟩
    have p1131 : (s0.1 0).toInt = R := by omega
    have p1132 : (s0.1 1).toInt = W := by omega
    have p1133 : 0 ≤ (s0.1 3).toInt ∧ (s0.1 3).toInt ≤ 4 := by omega
    have p1134 : 0 ≤ R ∧ R ≤ 6 ∧ 0 ≤ W ∧ W ≤ 10 ∧ 0 ≤ R * W ∧ R * W ≤ 40 := by omega
    have p1135 : ar 4 (0) (40) (s0.2.1 1) := h1116.2.2.2.2.1
    have p1136 : ar 40 (0) (3) (s0.2.1 3) := h1116.2.2.2.2.2.1
    have p1137 : ar 40 (0) (39) (s0.2.1 4) := h1116.2.2.2.2.2.2.1
    have p1138 : ar 40 (0) (39) (s0.2.1 5) := h1116.2.2.2.2.2.2.2.1
    have p1139 : ar 40 (0) (39) (s0.2.1 6) := h1116.2.2.2.2.2.2.2.2.1
    have p1140 : (Int32.toNatClampNeg r_1) ≤ 6400 := tn_le (by omega)
    have B1141 : bi (R) (W) (s0.1, s0.2.1, s0.2.2.1, (Int32.toNatClampNeg r_1), (fun _ => 0)) := ⟨p1131, p1132, p1133, p1134, p1135, p1136, p1137, p1138, p1139, p1140⟩
    exact k _ B1141
