theorem wq_X7_left_L31 {s0 : Md} {post : Int32 → Prop} {e90 : Int32 → Int32 → Int32 → Int32 → Int32 → Prop} {N R W D : Int} (h100985 : mb (N) (R) (W) (D) s0) (h100986 : 0 < D) (ke90 : ∀ (z1 : Int32) (z2 : Int32) (z3 : Int32) (z4 : Int32) (z5 : Int32), 0 ≤ (z5).toInt ∧ (z5).toInt ≤ R * W → e90 z1 z2 z3 z4 z5) : ∀ (n : Nat) (z1 : Int32) (z2 : Int32) (z3 : Int32) (z4 : Int32) (z5 : Int32), 0 ≤ (z5).toInt ∧ (z5).toInt ≤ R * W → R * W - (z5).toInt < (n : Int) → wp_X7_left_L31 s0 post e90 n z1 z2 z3 z4 z5 := by
  have := h100985.1
  have := h100985.2.1
  have := h100985.2.2.1
  have := h100985.2.2.2.1
  intro n
  induction n with
  | zero =>
    intro z1 z2 z3 z4 z5 i100987 i100988
    exfalso
    omega
  | succ n ih =>
    intro z1 z2 z3 z4 z5 i100987 i100988
    unfold wp_X7_left_L31
    refine wq_X7_cells h100985 (fun r_7 q100989 => ?_)
    refine ⟨fun c100990 => ?_, fun c100991 => ?_⟩
    · replace c100990 := q_le c100990
      have p100992 : 0 ≤ (z5).toInt ∧ (z5).toInt ≤ R * W := by omega
      exact ke90 _ _ _ _ _ p100992
    · replace c100991 := q_nle c100991
      have p100993 : 0 ≤ (z5).toInt ∧ (z5).toInt < 40 := by omega
      have p100994 : 0 < D := by omega
      refine wq_X7_leftOf h100985 p100993 p100994 (fun r_10 q100995 q100996 => ?_)
      have p100997 : 0 ≤ (z5).toInt ∧ (z5).toInt < 40 := by omega
      have p100998 : 0 < D := by omega
      refine wq_X7_leftOf h100985 p100997 p100998 (fun r_12 q100999 q101000 => ?_)
      have p101001 : 0 ≤ (z5).toInt ∧ (z5).toInt < 40 := by omega
      refine wq_X7_current h100985 p101001 (fun r_14 => ?_)
      have p101002 : 0 ≤ (z5).toInt ∧ (z5).toInt < 40 := by omega
      have p101003 : 0 < D := by omega
      refine wq_X7_leftOf h100985 p101002 p101003 (fun r_16 q101004 q101005 => ?_)
      refine ⟨fun c101006 => ?_, fun c101007 => ?_⟩
      · replace c101006 := q_le c101006
        have e101008 := tq_addr li_1 z5
        try rw [Int.emod_eq_of_lt (show 0 ≤ (z5).toInt + 1 + 2147483648 by omega) (show (z5).toInt + 1 + 2147483648 < 4294967296 by omega)] at e101008
        have p101009 : 0 ≤ (z5 + 1).toInt ∧ (z5 + 1).toInt ≤ R * W := by omega
        have p101010 : R * W - (z5 + 1).toInt < ((n : Nat) : Int) := by (omega)
        exact ih _ _ _ _ _ p101009 p101010
      · replace c101007 := q_nle c101007
        have p101011 : 0 ≤ (z5).toInt ∧ (z5).toInt < 40 := by omega
        have p101012 : 0 < D := by omega
        refine wq_X7_leftOf h100985 p101011 p101012 (fun r_19 q101013 q101014 => ?_)
        have e101015 := tq_addr li_1 z5
        try rw [Int.emod_eq_of_lt (show 0 ≤ (z5).toInt + 1 + 2147483648 by omega) (show (z5).toInt + 1 + 2147483648 < 4294967296 by omega)] at e101015
        have p101016 : 0 ≤ (z5 + 1).toInt ∧ (z5 + 1).toInt ≤ R * W := by omega
        have p101017 : R * W - (z5 + 1).toInt < ((n : Nat) : Int) := by (omega)
        exact ih _ _ _ _ _ p101016 p101017
theorem wq_X7_left {post : Int32 → Prop} {s0 : Md} {x1 : Int32} {N R W D : Int} (h101018 : mb (N) (R) (W) (D) s0) (k : ∀ (r : Int32), post r) : wp_X7_left post s0 x1 := by
  unfold wp_X7_left
  have := h101018.1
  have := h101018.2.1
  have := h101018.2.2.1
  have := h101018.2.2.2.1
  refine wq_X7_isBoard h101018 (fun r_1 q101019 => ?_)
  refine ⟨fun c101020 => ?_, fun c101021 => ?_⟩
  · replace c101020 := q_eq c101020
    rw [li_0] at c101020
    exact k _
  · replace c101021 := q_neq c101021
    rw [li_0] at c101021
    refine wq_X7_in (fun r_4 q101022 => ?_)
    try simp only [lj_0, lj_3] at q101022
    have := tq_64 x1
    refine ⟨fun c101023 => ?_, fun c101024 => ?_⟩
    · replace c101023 := q_neq c101023
      rw [li_0] at c101023
      have p101025 : 0 < D := by omega
      have p101026 : 0 ≤ (0 : Int32).toInt ∧ (0 : Int32).toInt ≤ R * W := by (have := li_0; omega)
      obtain ⟨f101027, g101028⟩ := fu_e 50
      have p101029 : R * W - (0 : Int32).toInt < (f101027 : Int) := by (have := li_0; omega)
      refine ⟨f101027, wq_X7_left_L31 h101018 p101025 (fun z1 z2 z3 z4 z5 q101030 => ?_) f101027 _ _ _ _ _ p101026 p101029⟩
      refine ⟨(n64_l h101018 (by omega)), ?_⟩
      refine ⟨fun c101031 => ?_, fun c101032 => ?_⟩
      · replace c101031 := q_neq c101031
        rw [li_0] at c101031
        refine ⟨fun c101033 => ?_, fun c101034 => ?_⟩
        · replace c101033 := q_neq c101033
          rw [li_1] at c101033
          refine ⟨fun c101035 => ?_, fun c101036 => ?_⟩
          · replace c101035 := q_neq c101035
            rw [li_2] at c101035
            refine ⟨fun c101037 => ?_, fun c101038 => ?_⟩
            · replace c101037 := q_le c101037
              have e101039 := tq_32 ((((Int32.toInt64 z4) + (s0.2.2.1 0 (Int32.toNatClampNeg 2))) - 1) / (s0.2.2.1 0 (Int32.toNatClampNeg 2)))
              try rw [Int.emod_eq_of_lt (show 0 ≤ ((((Int32.toInt64 z4) + (s0.2.2.1 0 (Int32.toNatClampNeg 2))) - 1) / (s0.2.2.1 0 (Int32.toNatClampNeg 2))).toInt + 2147483648 by omega) (show ((((Int32.toInt64 z4) + (s0.2.2.1 0 (Int32.toNatClampNeg 2))) - 1) / (s0.2.2.1 0 (Int32.toNatClampNeg 2))).toInt + 2147483648 < 4294967296 by omega)] at e101039
              exact k _
            · replace c101038 := q_nle c101038
              have e101040 := tq_32 ((((Int32.toInt64 z4) + (s0.2.2.1 0 (Int32.toNatClampNeg 2))) - 1) / (s0.2.2.1 0 (Int32.toNatClampNeg 2)))
              try rw [Int.emod_eq_of_lt (show 0 ≤ ((((Int32.toInt64 z4) + (s0.2.2.1 0 (Int32.toNatClampNeg 2))) - 1) / (s0.2.2.1 0 (Int32.toNatClampNeg 2))).toInt + 2147483648 by omega) (show ((((Int32.toInt64 z4) + (s0.2.2.1 0 (Int32.toNatClampNeg 2))) - 1) / (s0.2.2.1 0 (Int32.toNatClampNeg 2))).toInt + 2147483648 < 4294967296 by omega)] at e101040
              exact k _
          · replace c101036 := q_eq c101036
            rw [li_2] at c101036
            exact k _
        · replace c101034 := q_eq c101034
          rw [li_1] at c101034
          exact k _
      · replace c101032 := q_eq c101032
        rw [li_0] at c101032
        exact k _
    · replace c101024 := q_eq c101024
      rw [li_0] at c101024
      exact k _
theorem wq_X7_others_L4 {s0 : Md} {post : Int32 → Prop} {e34 : Int32 → Int32 → Prop} {N R W D : Int} (h101041 : mb (N) (R) (W) (D) s0) (h101042 : 0 < D) (ke34 : ∀ (z1 : Int32) (z2 : Int32), 0 ≤ (z2).toInt ∧ (z2).toInt ≤ R * W → e34 z1 z2) : ∀ (n : Nat) (z1 : Int32) (z2 : Int32), 0 ≤ (z2).toInt ∧ (z2).toInt ≤ R * W → R * W - (z2).toInt < (n : Int) → wp_X7_others_L4 s0 post e34 n z1 z2 := by
  have := h101041.1
  have := h101041.2.1
  have := h101041.2.2.1
  have := h101041.2.2.2.1
  intro n
  induction n with
  | zero =>
    intro z1 z2 i101043 i101044
    exfalso
    omega
  | succ n ih =>
    intro z1 z2 i101043 i101044
    unfold wp_X7_others_L4
    refine wq_X7_cells h101041 (fun r_1 q101045 => ?_)
    refine ⟨fun c101046 => ?_, fun c101047 => ?_⟩
    · replace c101046 := q_le c101046
      have p101048 : 0 ≤ (z2).toInt ∧ (z2).toInt ≤ R * W := by omega
      exact ke34 _ _ p101048
    · replace c101047 := q_nle c101047
      have p101049 : 0 ≤ (z2).toInt ∧ (z2).toInt < 40 := by omega
      have p101050 : 0 < D := by omega
      refine wq_X7_isOther h101041 p101049 p101050 (fun r_4 q101051 => ?_)
      refine ⟨fun c101052 => ?_, fun c101053 => ?_⟩
      · replace c101052 := q_eq c101052
        rw [li_0] at c101052
        have e101054 := tq_addr li_1 z2
        try rw [Int.emod_eq_of_lt (show 0 ≤ (z2).toInt + 1 + 2147483648 by omega) (show (z2).toInt + 1 + 2147483648 < 4294967296 by omega)] at e101054
        have p101055 : 0 ≤ (z2 + 1).toInt ∧ (z2 + 1).toInt ≤ R * W := by omega
        have p101056 : R * W - (z2 + 1).toInt < ((n : Nat) : Int) := by (omega)
        exact ih _ _ p101055 p101056
      · replace c101053 := q_neq c101053
        rw [li_0] at c101053
        have e101057 := tq_addr li_1 z2
        try rw [Int.emod_eq_of_lt (show 0 ≤ (z2).toInt + 1 + 2147483648 by omega) (show (z2).toInt + 1 + 2147483648 < 4294967296 by omega)] at e101057
        have p101058 : 0 ≤ (z2 + 1).toInt ∧ (z2 + 1).toInt ≤ R * W := by omega
        have p101059 : R * W - (z2 + 1).toInt < ((n : Nat) : Int) := by (omega)
        exact ih _ _ p101058 p101059
theorem wq_X7_others {post : Int32 → Prop} {s0 : Md} {N R W D : Int} (h101060 : mb (N) (R) (W) (D) s0) (h101061 : 0 < D) (k : ∀ (r : Int32), post r) : wp_X7_others post s0 := by
  unfold wp_X7_others
  have := h101060.1
  have := h101060.2.1
  have := h101060.2.2.1
  have := h101060.2.2.2.1
  have p101062 : 0 < D := by omega
  have p101063 : 0 ≤ (0 : Int32).toInt ∧ (0 : Int32).toInt ≤ R * W := by (have := li_0; omega)
  obtain ⟨f101064, g101065⟩ := fu_e 50
  have p101066 : R * W - (0 : Int32).toInt < (f101064 : Int) := by (have := li_0; omega)
  refine ⟨f101064, wq_X7_others_L4 h101060 p101062 (fun z1 z2 q101067 => ?_) f101064 _ _ p101063 p101066⟩
  exact k _
theorem wq_X7_when {post : Int32 → Md → Prop} {s0 : Md} {x1 : Int32} {N R W D : Int} (h101068 : mb (N) (R) (W) (D) s0) (h101069 : R ≤ 0 ∨ 0 < D) (k : ∀ (r : Int32) (u : Md) (R4 W4 D4 : Int), mb (N) (R4) (W4) (D4) u → R4 ≤ 0 ∨ 0 < D4 → post r u) : wp_X7_when post s0 x1 := by
  unfold wp_X7_when
  have := h101068.1
  have := h101068.2.1
  have := h101068.2.2.1
  have := h101068.2.2.2.1
  refine wq_X7_isBoard h101068 (fun r_1 q101070 => ?_)
  refine ⟨fun c101071 => ?_, fun c101072 => ?_⟩
  · replace c101071 := q_eq c101071
    rw [li_0] at c101071
    have p101073 : R ≤ 0 ∨ 0 < D := by omega
    exact k _ _ (R) (W) (D) h101068 p101073
  · replace c101072 := q_neq c101072
    rw [li_0] at c101072
    refine wq_X7_in (fun r_4 q101074 => ?_)
    try simp only [lj_0, lj_5] at q101074
    have := tq_64 x1
    refine ⟨fun c101075 => ?_, fun c101076 => ?_⟩
    · replace c101075 := q_neq c101075
      rw [li_0] at c101075
      have p101077 : R ≤ 0 ∨ 0 < D := by omega
      refine wq_X7_putsAside h101068 p101077 (fun u_8 q101078 q101079 q101080 => ?_)
      have := q101078.1
      have := q101078.2.1
      have p101081 : 0 < D := by omega
      try have := mu_b q101078.2.2.2.2.1 (show 0 < D by omega) 40 (by omega)
      obtain ⟨f101082, g101083⟩ := fu_e 5000
      have p101084 : mu_n ((u_8.2.2.1 0)) 40 < (f101082 : Int) := by (omega)
      refine ⟨f101082, wq_X7_when_L32 p101081 (fun t0 z1 z2 z3 z4 q101085 => ?_) f101082 _ _ _ _ _ q101078 p101084⟩
      have := q101085.1
      have := q101085.2.1
      have p101086 : 0 < D := by omega
      refine wq_X7_others q101085 p101086 (fun r_13 => ?_)
      refine wq_X7_takesBack q101085 (fun u_16 R4101087 W4101088 D4101089 q101090 q101091 q101092 => ?_)
      have := q101090.1
      have := q101090.2.1
      have := q101090.2.2.2.1
      refine ⟨fun c101093 => ?_, fun c101094 => ?_⟩
      · replace c101093 := q_eq c101093
        rw [li_0] at c101093
        have p101095 : R4101087 ≤ 0 ∨ 0 < D4101089 := by omega
        exact k _ _ (R4101087) (W4101088) (D4101089) q101090 p101095
      · replace c101094 := q_neq c101094
        rw [li_0] at c101094
        refine ⟨fun c101096 => ?_, fun c101097 => ?_⟩
        · replace c101096 := q_eq c101096
          rw [li_1] at c101096
          have p101098 : R4101087 ≤ 0 ∨ 0 < D4101089 := by omega
          exact k _ _ (R4101087) (W4101088) (D4101089) q101090 p101098
        · replace c101097 := q_neq c101097
          rw [li_1] at c101097
          refine ⟨fun c101099 => ?_, fun c101100 => ?_⟩
          · replace c101099 := q_eq c101099
            rw [li_2] at c101099
            have p101101 : R4101087 ≤ 0 ∨ 0 < D4101089 := by omega
            exact k _ _ (R4101087) (W4101088) (D4101089) q101090 p101101
          · replace c101100 := q_neq c101100
            rw [li_2] at c101100
            refine ⟨fun c101102 => ?_, fun c101103 => ?_⟩
            · replace c101102 := q_eq c101102
              rw [li_3] at c101102
              have p101104 : R4101087 ≤ 0 ∨ 0 < D4101089 := by omega
              exact k _ _ (R4101087) (W4101088) (D4101089) q101090 p101104
            · replace c101103 := q_neq c101103
              rw [li_3] at c101103
              refine ⟨fun c101105 => ?_, fun c101106 => ?_⟩
              · replace c101105 := q_eq c101105
                rw [li_4] at c101105
                have p101107 : R4101087 ≤ 0 ∨ 0 < D4101089 := by omega
                exact k _ _ (R4101087) (W4101088) (D4101089) q101090 p101107
              · replace c101106 := q_neq c101106
                rw [li_4] at c101106
                have p101108 : R4101087 ≤ 0 ∨ 0 < D4101089 := by omega
                exact k _ _ (R4101087) (W4101088) (D4101089) q101090 p101108
    · replace c101076 := q_eq c101076
      rw [li_0] at c101076
      have p101109 : R ≤ 0 ∨ 0 < D := by omega
      exact k _ _ (R) (W) (D) h101068 p101109
theorem wq_X7_total {post : Int32 → Prop} {s0 : Md} {x1 : Int32} {N R W D : Int} (h101110 : mb (N) (R) (W) (D) s0) (k : ∀ (r : Int32), post r) : wp_X7_total post s0 x1 := by
  unfold wp_X7_total
  have := h101110.1
  have := h101110.2.1
  have := h101110.2.2.1
  have := h101110.2.2.2.1
  refine wq_X7_isBoard h101110 (fun r_1 q101111 => ?_)
  refine ⟨fun c101112 => ?_, fun c101113 => ?_⟩
  · replace c101112 := q_eq c101112
    rw [li_0] at c101112
    exact k _
  · replace c101113 := q_neq c101113
    rw [li_0] at c101113
    refine wq_X7_in (fun r_4 q101114 => ?_)
    try simp only [lj_0, lj_3] at q101114
    have := tq_64 x1
    refine ⟨fun c101115 => ?_, fun c101116 => ?_⟩
    · replace c101115 := q_eq c101115
      rw [li_0] at c101115
      exact k _
    · replace c101116 := q_neq c101116
      rw [li_0] at c101116
      have e101117 := tq_addc li_4 x1
      try rw [Int.emod_eq_of_lt (show 0 ≤ 4 + (x1).toInt + 2147483648 by omega) (show 4 + (x1).toInt + 2147483648 < 4294967296 by omega)] at e101117
      have v101118 : vp_in (4 + x1) 6896 := vi (by omega) (by omega)
      refine ⟨v101118, ?_⟩
      exact k _
theorem wq_X7_rests_L16 {post : Int32 → Md → Prop} {e44 : Md → Int32 → Int32 → Prop} {D N R W : Int} (h101119 : 0 < D) (ke44 : ∀ (t0 : Md) (z1 : Int32) (z2 : Int32), mb (N) (R) (W) (D) t0 → 0 ≤ (z1).toInt ∧ (z1).toInt < 40 → 0 ≤ (z2).toInt ∧ (z2).toInt ≤ 10000 → e44 t0 z1 z2) : ∀ (n : Nat) (t0 : Md) (z1 : Int32) (z2 : Int32), mb (N) (R) (W) (D) t0 → 0 ≤ (z1).toInt ∧ (z1).toInt < 40 → 0 ≤ (z2).toInt ∧ (z2).toInt ≤ 10000 → 10001 - (z2).toInt < (n : Int) → wp_X7_rests_L16 post e44 n t0 z1 z2 := by
  intro n
  induction n with
  | zero =>
    intro t0 z1 z2 i101120 i101121 i101122 i101123
    have := i101120.1
    have := i101120.2.1
    have := i101120.2.2.1
    have := i101120.2.2.2.1
    exfalso
    omega
  | succ n ih =>
    intro t0 z1 z2 i101120 i101121 i101122 i101123
    unfold wp_X7_rests_L16
    have := i101120.1
    have := i101120.2.1
    have := i101120.2.2.1
    have := i101120.2.2.2.1
    have p101124 : 0 ≤ (z1).toInt ∧ (z1).toInt < 40 := by omega
    have p101125 : 0 < D := by omega
    refine wq_X7_leftOf i101120 p101124 p101125 (fun r_6 q101126 q101127 => ?_)
    refine ⟨fun c101128 => ?_, fun c101129 => ?_⟩
    · replace c101128 := q_le c101128
      rw [li_0] at c101128
      have p101130 : 0 ≤ (z1).toInt ∧ (z1).toInt < 40 := by omega
      have p101131 : 0 ≤ (z2).toInt ∧ (z2).toInt ≤ 10000 := by omega
      exact ke44 _ _ _ i101120 p101130 p101131
    · replace c101129 := q_nle c101129
      rw [li_0] at c101129
      refine ⟨fun c101132 => ?_, fun c101133 => ?_⟩
      · replace c101132 := q_lt c101132
        rw [li_9999] at c101132
        have p101134 : 0 ≤ (z1).toInt ∧ (z1).toInt < 40 := by omega
        have p101135 : 0 ≤ (z2).toInt ∧ (z2).toInt ≤ 10000 := by omega
        exact ke44 _ _ _ i101120 p101134 p101135
      · replace c101133 := q_nlt c101133
        rw [li_9999] at c101133
        have p101136 : 0 < D := by omega
        refine wq_X7_ticks i101120 p101136 (fun r_10 u_11 q101137 q101138 q101139 q101140 => ?_)
        have := q101137.1
        have := q101137.2.1
        refine ⟨fun c101141 => ?_, fun c101142 => ?_⟩
        · replace c101141 := q_le c101141
          rw [li_0] at c101141
          have p101143 : 0 ≤ (z1).toInt ∧ (z1).toInt < 40 := by omega
          have p101144 : 0 ≤ (z2).toInt ∧ (z2).toInt ≤ 10000 := by omega
          exact ke44 _ _ _ q101137 p101143 p101144
        · replace c101142 := q_nle c101142
          rw [li_0] at c101142
          have p101145 : 0 ≤ (z1).toInt ∧ (z1).toInt < 40 := by omega
          have e101146 := tq_addr li_1 z2
          try rw [Int.emod_eq_of_lt (show 0 ≤ (z2).toInt + 1 + 2147483648 by omega) (show (z2).toInt + 1 + 2147483648 < 4294967296 by omega)] at e101146
          have p101147 : 0 ≤ (z2 + 1).toInt ∧ (z2 + 1).toInt ≤ 10000 := by omega
          have p101148 : 10001 - (z2 + 1).toInt < ((n : Nat) : Int) := by (omega)
          exact ih _ _ _ q101137 p101145 p101147 p101148
theorem wq_X7_rests {post : Int32 → Md → Prop} {s0 : Md} {x1 : Int32} {N R W D : Int} (h101149 : mb (N) (R) (W) (D) s0) (h101150 : R ≤ 0 ∨ 0 < D) (k : ∀ (r : Int32) (u : Md) (R4 W4 D4 : Int), mb (N) (R4) (W4) (D4) u → R4 ≤ 0 ∨ 0 < D4 → post r u) : wp_X7_rests post s0 x1 := by
  unfold wp_X7_rests
  have := h101149.1
  have := h101149.2.1
  have := h101149.2.2.1
  have := h101149.2.2.2.1
  refine wq_X7_isCell h101149 (fun r_1 q101151 => ?_)
  refine ⟨fun c101152 => ?_, fun c101153 => ?_⟩
  · replace c101152 := q_neq c101152
    rw [li_0] at c101152
    have p101154 : R ≤ 0 ∨ 0 < D := by omega
    refine wq_X7_putsAside h101149 p101154 (fun u_5 q101155 q101156 q101157 => ?_)
    have := q101155.1
    have := q101155.2.1
    have p101158 : 0 < D := by omega
    have p101159 : 0 ≤ (x1).toInt ∧ (x1).toInt < 40 := by omega
    have p101160 : 0 ≤ (0 : Int32).toInt ∧ (0 : Int32).toInt ≤ 10000 := by (have := li_0; omega)
    obtain ⟨f101161, g101162⟩ := fu_e 10002
    have p101163 : 10001 - (0 : Int32).toInt < (f101161 : Int) := by (have := li_0; omega)
    refine ⟨f101161, wq_X7_rests_L16 p101158 (fun t0 z1 z2 q101164 q101165 q101166 => ?_) f101161 _ _ _ q101155 p101159 p101160 p101163⟩
    have := q101164.1
    have := q101164.2.1
    have p101167 : 0 ≤ (z1).toInt ∧ (z1).toInt < 40 := by omega
    have p101168 : 0 < D := by omega
    refine wq_X7_leftOf q101164 p101167 p101168 (fun r_13 q101169 q101170 => ?_)
    refine ⟨fun c101171 => ?_, fun c101172 => ?_⟩
    · replace c101171 := q_lt c101171
      rw [li_0] at c101171
      refine wq_X7_takesBack q101164 (fun u_17 R4101173 W4101174 D4101175 q101176 q101177 q101178 => ?_)
      have := q101176.1
      have := q101176.2.1
      have := q101176.2.2.2.1
      have p101179 : R4101173 ≤ 0 ∨ 0 < D4101175 := by omega
      exact k _ _ (R4101173) (W4101174) (D4101175) q101176 p101179
    · replace c101172 := q_nlt c101172
      rw [li_0] at c101172
      refine ⟨fun c101180 => ?_, fun c101181 => ?_⟩
      · replace c101180 := q_le c101180
        rw [li_9999] at c101180
        refine wq_X7_takesBack q101164 (fun u_20 R4101182 W4101183 D4101184 q101185 q101186 q101187 => ?_)
        have := q101185.1
        have := q101185.2.1
        have := q101185.2.2.2.1
        have p101188 : R4101182 ≤ 0 ∨ 0 < D4101184 := by omega
        exact k _ _ (R4101182) (W4101183) (D4101184) q101185 p101188
      · replace c101181 := q_nle c101181
        rw [li_9999] at c101181
        refine wq_X7_takesBack q101164 (fun u_22 R4101189 W4101190 D4101191 q101192 q101193 q101194 => ?_)
        have := q101192.1
        have := q101192.2.1
        have := q101192.2.2.2.1
        have p101195 : R4101189 ≤ 0 ∨ 0 < D4101191 := by omega
        exact k _ _ (R4101189) (W4101190) (D4101191) q101192 p101195
  · replace c101153 := q_eq c101153
    rw [li_0] at c101153
    have p101196 : R ≤ 0 ∨ 0 < D := by omega
    exact k _ _ (R) (W) (D) h101149 p101196
theorem wq_X7_unlike_L28 {s0 : Md} {post : Int32 → Prop} {e82 : Int32 → Int32 → Int32 → Int32 → Prop} {N R W D : Int} (h101197 : mb (N) (R) (W) (D) s0) (h101198 : 0 < D) (ke82 : ∀ (z1 : Int32) (z2 : Int32) (z3 : Int32) (z4 : Int32), 0 ≤ (z1).toInt ∧ (z1).toInt < R ∧ 0 ≤ (z2).toInt ∧ (z2).toInt < R → 0 ≤ (z4).toInt ∧ (z4).toInt ≤ W → e82 z1 z2 z3 z4) : ∀ (n : Nat) (z1 : Int32) (z2 : Int32) (z3 : Int32) (z4 : Int32), 0 ≤ (z1).toInt ∧ (z1).toInt < R ∧ 0 ≤ (z2).toInt ∧ (z2).toInt < R → 0 ≤ (z4).toInt ∧ (z4).toInt ≤ W → W - (z4).toInt < (n : Int) → wp_X7_unlike_L28 s0 post e82 n z1 z2 z3 z4 := by
  have := h101197.1
  have := h101197.2.1
  have := h101197.2.2.1
  have := h101197.2.2.2.1
  intro n
  induction n with
  | zero =>
    intro z1 z2 z3 z4 i101199 i101200 i101201
    exfalso
    omega
  | succ n ih =>
    intro z1 z2 z3 z4 i101199 i101200 i101201
    unfold wp_X7_unlike_L28
    refine wq_X7_wide h101197 (fun r_8 q101202 => ?_)
    refine ⟨fun c101203 => ?_, fun c101204 => ?_⟩
    · replace c101203 := q_le c101203
      have p101205 : 0 ≤ (z1).toInt ∧ (z1).toInt < R ∧ 0 ≤ (z2).toInt ∧ (z2).toInt < R := by omega
      have p101206 : 0 ≤ (z4).toInt ∧ (z4).toInt ≤ W := by omega
      exact ke82 _ _ _ _ p101205 p101206
    · replace c101204 := q_nle c101204
      refine wq_X7_wide h101197 (fun r_11 q101207 => ?_)
      have := rw_r (a := z1) (b := r_11) (R := R) (W := W) (by omega) (by omega) (by omega)
      have e101208 := tq_add (r_11 * z1) z4
      try rw [Int.emod_eq_of_lt (show 0 ≤ (r_11 * z1).toInt + (z4).toInt + 2147483648 by omega) (show (r_11 * z1).toInt + (z4).toInt + 2147483648 < 4294967296 by omega)] at e101208
      have p101209 : 0 ≤ ((r_11 * z1) + z4).toInt ∧ ((r_11 * z1) + z4).toInt < 40 := by omega
      have p101210 : 0 < D := by omega
      have p101211 : 0 ≤ ((2 : Int32)).toInt ∧ ((2 : Int32)).toInt ≤ 2 := by (have := li_2; omega)
      refine wq_X7_signAt h101197 p101209 p101210 p101211 (fun r_13 => ?_)
      refine wq_X7_wide h101197 (fun r_15 q101212 => ?_)
      have := rw_r (a := z2) (b := r_15) (R := R) (W := W) (by omega) (by omega) (by omega)
      have e101213 := tq_add (r_15 * z2) z4
      try rw [Int.emod_eq_of_lt (show 0 ≤ (r_15 * z2).toInt + (z4).toInt + 2147483648 by omega) (show (r_15 * z2).toInt + (z4).toInt + 2147483648 < 4294967296 by omega)] at e101213
      have p101214 : 0 ≤ ((r_15 * z2) + z4).toInt ∧ ((r_15 * z2) + z4).toInt < 40 := by omega
      have p101215 : 0 < D := by omega
      have p101216 : 0 ≤ ((2 : Int32)).toInt ∧ ((2 : Int32)).toInt ≤ 2 := by (have := li_2; omega)
      refine wq_X7_signAt h101197 p101214 p101215 p101216 (fun r_17 => ?_)
      refine ⟨fun c101217 => ?_, fun c101218 => ?_⟩
      · replace c101217 := q_eq c101217
        have p101219 : 0 ≤ (z1).toInt ∧ (z1).toInt < R ∧ 0 ≤ (z2).toInt ∧ (z2).toInt < R := by omega
        have e101220 := tq_addr li_1 z4
        try rw [Int.emod_eq_of_lt (show 0 ≤ (z4).toInt + 1 + 2147483648 by omega) (show (z4).toInt + 1 + 2147483648 < 4294967296 by omega)] at e101220
        have p101221 : 0 ≤ (z4 + 1).toInt ∧ (z4 + 1).toInt ≤ W := by omega
        have p101222 : W - (z4 + 1).toInt < ((n : Nat) : Int) := by (omega)
        exact ih _ _ _ _ p101219 p101221 p101222
      · replace c101218 := q_neq c101218
        have p101223 : 0 ≤ (z1).toInt ∧ (z1).toInt < R ∧ 0 ≤ (z2).toInt ∧ (z2).toInt < R := by omega
        have e101224 := tq_addr li_1 z4
        try rw [Int.emod_eq_of_lt (show 0 ≤ (z4).toInt + 1 + 2147483648 by omega) (show (z4).toInt + 1 + 2147483648 < 4294967296 by omega)] at e101224
        have p101225 : 0 ≤ (z4 + 1).toInt ∧ (z4 + 1).toInt ≤ W := by omega
        have p101226 : W - (z4 + 1).toInt < ((n : Nat) : Int) := by (omega)
        exact ih _ _ _ _ p101223 p101225 p101226
theorem wq_X7_unlike {post : Int32 → Prop} {s0 : Md} {x1 : Int32} {x2 : Int32} {N R W D : Int} (h101227 : mb (N) (R) (W) (D) s0) (h101228 : R ≤ 0 ∨ 0 < D) (k : ∀ (r : Int32), post r) : wp_X7_unlike post s0 x1 x2 := by
  unfold wp_X7_unlike
  have := h101227.1
  have := h101227.2.1
  have := h101227.2.2.1
  have := h101227.2.2.2.1
  refine wq_X7_isRow h101227 (fun r_1 q101229 => ?_)
  refine ⟨fun c101230 => ?_, fun c101231 => ?_⟩
  · replace c101230 := q_eq c101230
    rw [li_0] at c101230
    exact k _
  · replace c101231 := q_neq c101231
    rw [li_0] at c101231
    refine wq_X7_isRow h101227 (fun r_4 q101232 => ?_)
    refine ⟨fun c101233 => ?_, fun c101234 => ?_⟩
    · replace c101233 := q_eq c101233
      rw [li_0] at c101233
      exact k _
    · replace c101234 := q_neq c101234
      rw [li_0] at c101234
      refine ⟨fun c101235 => ?_, fun c101236 => ?_⟩
      · replace c101235 := q_neq c101235
        have p101237 : 0 < D := by omega
        have p101238 : 0 ≤ (x1).toInt ∧ (x1).toInt < R ∧ 0 ≤ (x2).toInt ∧ (x2).toInt < R := by omega
        have p101239 : 0 ≤ (0 : Int32).toInt ∧ (0 : Int32).toInt ≤ W := by (have := li_0; omega)
        obtain ⟨f101240, g101241⟩ := fu_e 50
        have p101242 : W - (0 : Int32).toInt < (f101240 : Int) := by (have := li_0; omega)
        refine ⟨f101240, wq_X7_unlike_L28 h101227 p101237 (fun z1 z2 z3 z4 q101243 q101244 => ?_) f101240 _ _ _ _ p101238 p101239 p101242⟩
        exact k _
      · replace c101236 := q_eq c101236
        exact k _
