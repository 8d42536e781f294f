theorem wq_X7_goesTimes_3_L90 {post : Int32 → Md → Prop} {e141 : Md → Int32 → Int32 → Int32 → Int32 → Int32 → Prop} {D N R W G : Int} {A : Nat → Int32} (h104019 : 0 < D) (ke141 : ∀ (t0 : Md) (z1 : Int32) (z2 : Int32) (z3 : Int32) (z4 : Int32) (z5 : Int32), mb (N) (R) (W) (D) t0 → ie [1, 2, 6, 7, 8, 9, 10, 11, 12, 13, 14] t0.1 A → (t0.1 14).toInt = 2 → (z4).toInt = G → 0 ≤ G ∧ G ≤ (t0.1 6).toInt ∧ (t0.1 6).toInt ≤ N → 0 ≤ (z5).toInt ∧ (z5).toInt ≤ 21 ∧ (z2).toInt ≤ 20 → e141 t0 z1 z2 z3 z4 z5) (k : ∀ (r : Int32) (u : Md), mb (N) (R) (W) (D) u → ie [1, 2, 6, 7, 8, 9, 10, 11, 12, 13, 14] u.1 A → (r).toInt = 0 → G ≤ (u.1 6).toInt ∧ (u.1 6).toInt ≤ N → post r u) : ∀ (n : Nat) (t0 : Md) (z1 : Int32) (z2 : Int32) (z3 : Int32) (z4 : Int32) (z5 : Int32), mb (N) (R) (W) (D) t0 → ie [1, 2, 6, 7, 8, 9, 10, 11, 12, 13, 14] t0.1 A → (t0.1 14).toInt = 2 → (z4).toInt = G → 0 ≤ G ∧ G ≤ (t0.1 6).toInt ∧ (t0.1 6).toInt ≤ N → 0 ≤ (z5).toInt ∧ (z5).toInt ≤ 21 ∧ (z2).toInt ≤ 20 → 21 - (z5).toInt < (n : Int) → wp_X7_goesTimes_3_L90 post e141 n t0 z1 z2 z3 z4 z5 := by
  intro n
  induction n with
  | zero =>
    intro t0 z1 z2 z3 z4 z5 i104020 i104021 i104022 i104023 i104024 i104025 i104026
    have := i104020.1
    have := i104020.2.1
    have := i104020.2.2.1
    have := i104020.2.2.2.1
    exfalso
    omega
  | succ n ih =>
    intro t0 z1 z2 z3 z4 z5 i104020 i104021 i104022 i104023 i104024 i104025 i104026
    unfold wp_X7_goesTimes_3_L90
    have := i104020.1
    have := i104020.2.1
    have := i104020.2.2.1
    have := i104020.2.2.2.1
    refine ⟨fun c104027 => ?_, fun c104028 => ?_⟩
    · replace c104027 := q_eq c104027
      rw [li_0] at c104027
      refine ⟨fun c104029 => ?_, fun c104030 => ?_⟩
      · replace c104029 := q_eq c104029
        rw [li_0] at c104029
        have : (t0.1 5).toInt = (A 5).toInt := ie_i i104021 5 (by decide)
        have p104031 : (t0.1 5).toInt = N := by omega
        have : (t0.1 0).toInt = (A 0).toInt := ie_i i104021 0 (by decide)
        have p104032 : 0 ≤ (t0.1 0).toInt ∧ (t0.1 0).toInt ≤ 10 := by omega
        have p104033 : 0 ≤ N ∧ N ≤ 400 := by omega
        have p104034 : 0 ≤ R ∧ R ≤ 6 ∧ 0 ≤ W ∧ W ≤ 10 ∧ 0 ≤ R * W ∧ R * W ≤ 40 ∧ 0 ≤ D ∧ D ≤ 4 ∧ (D ≤ 0 ∨ 1 ≤ R) ∧ (1 ≤ R ∨ R * W = 0) := by omega
        have B104035 : mb (N) (R) (W) (D) ((va_up t0.1 6 z4), t0.2.1, t0.2.2.1, t0.2.2.2) := ⟨p104031, p104032, p104033, p104034, i104020.2.2.2.2.1, i104020.2.2.2.2.2.1, i104020.2.2.2.2.2.2.1, i104020.2.2.2.2.2.2.2⟩
        have p104036 : 0 < D := by omega
        have p104037 : 0 ≤ (z4).toInt ∧ (z4).toInt ≤ N := by omega
        have p104038 : (t0.1 14).toInt = 2 := by omega
        refine wq_X7_goesAll_2 B104035 p104036 p104037 p104038 (fun r_14 u_15 q104039 q104040 q104041 q104042 q104043 => ?_)
        have := q104039.1
        have := q104039.2.1
        replace q104041 : (r_14).toInt = 0 ∨ (r_14).toInt = 1 := q104041
        replace q104042 : (z4).toInt ≤ (u_15.1 6).toInt ∧ (u_15.1 6).toInt ≤ N := q104042
        replace q104043 : (r_14).toInt = 0 ∨ (u_15.1 14).toInt = (t0.1 14).toInt := q104043
        refine ⟨fun c104044 => ?_, fun c104045 => ?_⟩
        · replace c104044 := q_neq c104044
          rw [li_0] at c104044
          have p104046 : ie [1, 2, 6, 7, 8, 9, 10, 11, 12, 13, 14] u_15.1 A := (ie_tr q104040 (by decide) (ie_up (ie_tr i104021 (by decide) (ie_refl _ _)) (by decide)))
          have p104047 : (u_15.1 14).toInt = 2 := by omega
          have p104048 : (z4).toInt = G := by omega
          have p104049 : 0 ≤ G ∧ G ≤ (u_15.1 6).toInt ∧ (u_15.1 6).toInt ≤ N := by omega
          have e104050 := tq_addr li_1 z5
          try rw [Int.emod_eq_of_lt (show 0 ≤ (z5).toInt + 1 + 2147483648 by omega) (show (z5).toInt + 1 + 2147483648 < 4294967296 by omega)] at e104050
          have p104051 : 0 ≤ (z5 + 1).toInt ∧ (z5 + 1).toInt ≤ 21 ∧ (z2).toInt ≤ 20 := by omega
          have p104052 : 21 - (z5 + 1).toInt < ((n : Nat) : Int) := by (omega)
          exact ih _ _ _ _ _ _ q104039 p104046 p104047 p104048 p104049 p104051 p104052
        · replace c104045 := q_eq c104045
          rw [li_0] at c104045
          have p104053 : ie [1, 2, 6, 7, 8, 9, 10, 11, 12, 13, 14] u_15.1 A := (ie_tr q104040 (by decide) (ie_up (ie_tr i104021 (by decide) (ie_refl _ _)) (by decide)))
          have p104054 : (0 : Int32).toInt = 0 := by (have := li_0; omega)
          have p104055 : G ≤ (u_15.1 6).toInt ∧ (u_15.1 6).toInt ≤ N := by omega
          exact k _ _ q104039 p104053 p104054 p104055
      · replace c104030 := q_neq c104030
        rw [li_0] at c104030
        refine ⟨fun c104056 => ?_, fun c104057 => ?_⟩
        · replace c104056 := q_le c104056
          have : (t0.1 5).toInt = (A 5).toInt := ie_i i104021 5 (by decide)
          have p104058 : (t0.1 5).toInt = N := by omega
          have : (t0.1 0).toInt = (A 0).toInt := ie_i i104021 0 (by decide)
          have p104059 : 0 ≤ (t0.1 0).toInt ∧ (t0.1 0).toInt ≤ 10 := by omega
          have p104060 : 0 ≤ N ∧ N ≤ 400 := by omega
          have p104061 : 0 ≤ R ∧ R ≤ 6 ∧ 0 ≤ W ∧ W ≤ 10 ∧ 0 ≤ R * W ∧ R * W ≤ 40 ∧ 0 ≤ D ∧ D ≤ 4 ∧ (D ≤ 0 ∨ 1 ≤ R) ∧ (1 ≤ R ∨ R * W = 0) := by omega
          have B104062 : mb (N) (R) (W) (D) ((va_up t0.1 6 z4), t0.2.1, t0.2.2.1, t0.2.2.2) := ⟨p104058, p104059, p104060, p104061, i104020.2.2.2.2.1, i104020.2.2.2.2.2.1, i104020.2.2.2.2.2.2.1, i104020.2.2.2.2.2.2.2⟩
          have p104063 : 0 < D := by omega
          have p104064 : 0 ≤ (z4).toInt ∧ (z4).toInt ≤ N := by omega
          have p104065 : (t0.1 14).toInt = 2 := by omega
          refine wq_X7_goesAll_2 B104062 p104063 p104064 p104065 (fun r_18 u_19 q104066 q104067 q104068 q104069 q104070 => ?_)
          have := q104066.1
          have := q104066.2.1
          replace q104068 : (r_18).toInt = 0 ∨ (r_18).toInt = 1 := q104068
          replace q104069 : (z4).toInt ≤ (u_19.1 6).toInt ∧ (u_19.1 6).toInt ≤ N := q104069
          replace q104070 : (r_18).toInt = 0 ∨ (u_19.1 14).toInt = (t0.1 14).toInt := q104070
          refine ⟨fun c104071 => ?_, fun c104072 => ?_⟩
          · replace c104071 := q_neq c104071
            rw [li_0] at c104071
            have p104073 : ie [1, 2, 6, 7, 8, 9, 10, 11, 12, 13, 14] u_19.1 A := (ie_tr q104067 (by decide) (ie_up (ie_tr i104021 (by decide) (ie_refl _ _)) (by decide)))
            have p104074 : (u_19.1 14).toInt = 2 := by omega
            have p104075 : (z4).toInt = G := by omega
            have p104076 : 0 ≤ G ∧ G ≤ (u_19.1 6).toInt ∧ (u_19.1 6).toInt ≤ N := by omega
            have e104077 := tq_addr li_1 z5
            try rw [Int.emod_eq_of_lt (show 0 ≤ (z5).toInt + 1 + 2147483648 by omega) (show (z5).toInt + 1 + 2147483648 < 4294967296 by omega)] at e104077
            have p104078 : 0 ≤ (z5 + 1).toInt ∧ (z5 + 1).toInt ≤ 21 ∧ (z2).toInt ≤ 20 := by omega
            have p104079 : 21 - (z5 + 1).toInt < ((n : Nat) : Int) := by (omega)
            exact ih _ _ _ _ _ _ q104066 p104073 p104074 p104075 p104076 p104078 p104079
          · replace c104072 := q_eq c104072
            rw [li_0] at c104072
            have p104080 : ie [1, 2, 6, 7, 8, 9, 10, 11, 12, 13, 14] u_19.1 A := (ie_tr q104067 (by decide) (ie_up (ie_tr i104021 (by decide) (ie_refl _ _)) (by decide)))
            have p104081 : (0 : Int32).toInt = 0 := by (have := li_0; omega)
            have p104082 : G ≤ (u_19.1 6).toInt ∧ (u_19.1 6).toInt ≤ N := by omega
            exact k _ _ q104066 p104080 p104081 p104082
        · replace c104057 := q_nle c104057
          have : (t0.1 5).toInt = (A 5).toInt := ie_i i104021 5 (by decide)
          have p104083 : (t0.1 5).toInt = N := by omega
          have : (t0.1 0).toInt = (A 0).toInt := ie_i i104021 0 (by decide)
          have p104084 : 0 ≤ (t0.1 0).toInt ∧ (t0.1 0).toInt ≤ 10 := by omega
          have p104085 : 0 ≤ N ∧ N ≤ 400 := by omega
          have p104086 : 0 ≤ R ∧ R ≤ 6 ∧ 0 ≤ W ∧ W ≤ 10 ∧ 0 ≤ R * W ∧ R * W ≤ 40 ∧ 0 ≤ D ∧ D ≤ 4 ∧ (D ≤ 0 ∨ 1 ≤ R) ∧ (1 ≤ R ∨ R * W = 0) := by omega
          have B104087 : mb (N) (R) (W) (D) ((va_up t0.1 6 z4), t0.2.1, t0.2.2.1, t0.2.2.2) := ⟨p104083, p104084, p104085, p104086, i104020.2.2.2.2.1, i104020.2.2.2.2.2.1, i104020.2.2.2.2.2.2.1, i104020.2.2.2.2.2.2.2⟩
          have p104088 : 0 < D := by omega
          have p104089 : 0 ≤ (z4).toInt ∧ (z4).toInt ≤ N := by omega
          have p104090 : (t0.1 14).toInt = 2 := by omega
          refine wq_X7_goesAll_2 B104087 p104088 p104089 p104090 (fun r_21 u_22 q104091 q104092 q104093 q104094 q104095 => ?_)
          have := q104091.1
          have := q104091.2.1
          replace q104093 : (r_21).toInt = 0 ∨ (r_21).toInt = 1 := q104093
          replace q104094 : (z4).toInt ≤ (u_22.1 6).toInt ∧ (u_22.1 6).toInt ≤ N := q104094
          replace q104095 : (r_21).toInt = 0 ∨ (u_22.1 14).toInt = (t0.1 14).toInt := q104095
          refine ⟨fun c104096 => ?_, fun c104097 => ?_⟩
          · replace c104096 := q_neq c104096
            rw [li_0] at c104096
            have p104098 : ie [1, 2, 6, 7, 8, 9, 10, 11, 12, 13, 14] u_22.1 A := (ie_tr q104092 (by decide) (ie_up (ie_tr i104021 (by decide) (ie_refl _ _)) (by decide)))
            have p104099 : (u_22.1 14).toInt = 2 := by omega
            have p104100 : (z4).toInt = G := by omega
            have p104101 : 0 ≤ G ∧ G ≤ (u_22.1 6).toInt ∧ (u_22.1 6).toInt ≤ N := by omega
            have e104102 := tq_addr li_1 z5
            try rw [Int.emod_eq_of_lt (show 0 ≤ (z5).toInt + 1 + 2147483648 by omega) (show (z5).toInt + 1 + 2147483648 < 4294967296 by omega)] at e104102
            have p104103 : 0 ≤ (z5 + 1).toInt ∧ (z5 + 1).toInt ≤ 21 ∧ (z2).toInt ≤ 20 := by omega
            have p104104 : 21 - (z5 + 1).toInt < ((n : Nat) : Int) := by (omega)
            exact ih _ _ _ _ _ _ q104091 p104098 p104099 p104100 p104101 p104103 p104104
          · replace c104097 := q_eq c104097
            rw [li_0] at c104097
            have p104105 : ie [1, 2, 6, 7, 8, 9, 10, 11, 12, 13, 14] u_22.1 A := (ie_tr q104092 (by decide) (ie_up (ie_tr i104021 (by decide) (ie_refl _ _)) (by decide)))
            have p104106 : (0 : Int32).toInt = 0 := by (have := li_0; omega)
            have p104107 : G ≤ (u_22.1 6).toInt ∧ (u_22.1 6).toInt ≤ N := by omega
            exact k _ _ q104091 p104105 p104106 p104107
    · replace c104028 := q_neq c104028
      rw [li_0] at c104028
      refine ⟨fun c104108 => ?_, fun c104109 => ?_⟩
      · replace c104108 := q_le c104108
        have p104110 : ie [1, 2, 6, 7, 8, 9, 10, 11, 12, 13, 14] t0.1 A := (ie_tr i104021 (by decide) (ie_refl _ _))
        have p104111 : (t0.1 14).toInt = 2 := by omega
        have p104112 : (z4).toInt = G := by omega
        have p104113 : 0 ≤ G ∧ G ≤ (t0.1 6).toInt ∧ (t0.1 6).toInt ≤ N := by omega
        have p104114 : 0 ≤ (z5).toInt ∧ (z5).toInt ≤ 21 ∧ (z2).toInt ≤ 20 := by omega
        exact ke141 _ _ _ _ _ _ i104020 p104110 p104111 p104112 p104113 p104114
      · replace c104109 := q_nle c104109
        refine ⟨fun c104115 => ?_, fun c104116 => ?_⟩
        · replace c104115 := q_eq c104115
          rw [li_0] at c104115
          have p104117 : ie [1, 2, 6, 7, 8, 9, 10, 11, 12, 13, 14] t0.1 A := (ie_tr i104021 (by decide) (ie_refl _ _))
          have p104118 : (t0.1 14).toInt = 2 := by omega
          have p104119 : (z4).toInt = G := by omega
          have p104120 : 0 ≤ G ∧ G ≤ (t0.1 6).toInt ∧ (t0.1 6).toInt ≤ N := by omega
          have p104121 : 0 ≤ (z5).toInt ∧ (z5).toInt ≤ 21 ∧ (z2).toInt ≤ 20 := by omega
          exact ke141 _ _ _ _ _ _ i104020 p104117 p104118 p104119 p104120 p104121
        · replace c104116 := q_neq c104116
          rw [li_0] at c104116
          refine ⟨fun c104122 => ?_, fun c104123 => ?_⟩
          · replace c104122 := q_eq c104122
            rw [li_0] at c104122
            have : (t0.1 5).toInt = (A 5).toInt := ie_i i104021 5 (by decide)
            have p104124 : (t0.1 5).toInt = N := by omega
            have : (t0.1 0).toInt = (A 0).toInt := ie_i i104021 0 (by decide)
            have p104125 : 0 ≤ (t0.1 0).toInt ∧ (t0.1 0).toInt ≤ 10 := by omega
            have p104126 : 0 ≤ N ∧ N ≤ 400 := by omega
            have p104127 : 0 ≤ R ∧ R ≤ 6 ∧ 0 ≤ W ∧ W ≤ 10 ∧ 0 ≤ R * W ∧ R * W ≤ 40 ∧ 0 ≤ D ∧ D ≤ 4 ∧ (D ≤ 0 ∨ 1 ≤ R) ∧ (1 ≤ R ∨ R * W = 0) := by omega
            have B104128 : mb (N) (R) (W) (D) ((va_up t0.1 6 z4), t0.2.1, t0.2.2.1, t0.2.2.2) := ⟨p104124, p104125, p104126, p104127, i104020.2.2.2.2.1, i104020.2.2.2.2.2.1, i104020.2.2.2.2.2.2.1, i104020.2.2.2.2.2.2.2⟩
            have p104129 : 0 < D := by omega
            have p104130 : 0 ≤ (z4).toInt ∧ (z4).toInt ≤ N := by omega
            have p104131 : (t0.1 14).toInt = 2 := by omega
            refine wq_X7_goesAll_2 B104128 p104129 p104130 p104131 (fun r_27 u_28 q104132 q104133 q104134 q104135 q104136 => ?_)
            have := q104132.1
            have := q104132.2.1
            replace q104134 : (r_27).toInt = 0 ∨ (r_27).toInt = 1 := q104134
            replace q104135 : (z4).toInt ≤ (u_28.1 6).toInt ∧ (u_28.1 6).toInt ≤ N := q104135
            replace q104136 : (r_27).toInt = 0 ∨ (u_28.1 14).toInt = (t0.1 14).toInt := q104136
            refine ⟨fun c104137 => ?_, fun c104138 => ?_⟩
            · replace c104137 := q_neq c104137
              rw [li_0] at c104137
              have p104139 : ie [1, 2, 6, 7, 8, 9, 10, 11, 12, 13, 14] u_28.1 A := (ie_tr q104133 (by decide) (ie_up (ie_tr i104021 (by decide) (ie_refl _ _)) (by decide)))
              have p104140 : (u_28.1 14).toInt = 2 := by omega
              have p104141 : (z4).toInt = G := by omega
              have p104142 : 0 ≤ G ∧ G ≤ (u_28.1 6).toInt ∧ (u_28.1 6).toInt ≤ N := by omega
              have e104143 := tq_addr li_1 z5
              try rw [Int.emod_eq_of_lt (show 0 ≤ (z5).toInt + 1 + 2147483648 by omega) (show (z5).toInt + 1 + 2147483648 < 4294967296 by omega)] at e104143
              have p104144 : 0 ≤ (z5 + 1).toInt ∧ (z5 + 1).toInt ≤ 21 ∧ (z2).toInt ≤ 20 := by omega
              have p104145 : 21 - (z5 + 1).toInt < ((n : Nat) : Int) := by (omega)
              exact ih _ _ _ _ _ _ q104132 p104139 p104140 p104141 p104142 p104144 p104145
            · replace c104138 := q_eq c104138
              rw [li_0] at c104138
              have p104146 : ie [1, 2, 6, 7, 8, 9, 10, 11, 12, 13, 14] u_28.1 A := (ie_tr q104133 (by decide) (ie_up (ie_tr i104021 (by decide) (ie_refl _ _)) (by decide)))
              have p104147 : (0 : Int32).toInt = 0 := by (have := li_0; omega)
              have p104148 : G ≤ (u_28.1 6).toInt ∧ (u_28.1 6).toInt ≤ N := by omega
              exact k _ _ q104132 p104146 p104147 p104148
          · replace c104123 := q_neq c104123
            rw [li_0] at c104123
            refine ⟨fun c104149 => ?_, fun c104150 => ?_⟩
            · replace c104149 := q_le c104149
              have : (t0.1 5).toInt = (A 5).toInt := ie_i i104021 5 (by decide)
              have p104151 : (t0.1 5).toInt = N := by omega
              have : (t0.1 0).toInt = (A 0).toInt := ie_i i104021 0 (by decide)
              have p104152 : 0 ≤ (t0.1 0).toInt ∧ (t0.1 0).toInt ≤ 10 := by omega
              have p104153 : 0 ≤ N ∧ N ≤ 400 := by omega
              have p104154 : 0 ≤ R ∧ R ≤ 6 ∧ 0 ≤ W ∧ W ≤ 10 ∧ 0 ≤ R * W ∧ R * W ≤ 40 ∧ 0 ≤ D ∧ D ≤ 4 ∧ (D ≤ 0 ∨ 1 ≤ R) ∧ (1 ≤ R ∨ R * W = 0) := by omega
              have B104155 : mb (N) (R) (W) (D) ((va_up t0.1 6 z4), t0.2.1, t0.2.2.1, t0.2.2.2) := ⟨p104151, p104152, p104153, p104154, i104020.2.2.2.2.1, i104020.2.2.2.2.2.1, i104020.2.2.2.2.2.2.1, i104020.2.2.2.2.2.2.2⟩
              have p104156 : 0 < D := by omega
              have p104157 : 0 ≤ (z4).toInt ∧ (z4).toInt ≤ N := by omega
              have p104158 : (t0.1 14).toInt = 2 := by omega
              refine wq_X7_goesAll_2 B104155 p104156 p104157 p104158 (fun r_31 u_32 q104159 q104160 q104161 q104162 q104163 => ?_)
              have := q104159.1
              have := q104159.2.1
              replace q104161 : (r_31).toInt = 0 ∨ (r_31).toInt = 1 := q104161
              replace q104162 : (z4).toInt ≤ (u_32.1 6).toInt ∧ (u_32.1 6).toInt ≤ N := q104162
              replace q104163 : (r_31).toInt = 0 ∨ (u_32.1 14).toInt = (t0.1 14).toInt := q104163
              refine ⟨fun c104164 => ?_, fun c104165 => ?_⟩
              · replace c104164 := q_neq c104164
                rw [li_0] at c104164
                have p104166 : ie [1, 2, 6, 7, 8, 9, 10, 11, 12, 13, 14] u_32.1 A := (ie_tr q104160 (by decide) (ie_up (ie_tr i104021 (by decide) (ie_refl _ _)) (by decide)))
                have p104167 : (u_32.1 14).toInt = 2 := by omega
                have p104168 : (z4).toInt = G := by omega
                have p104169 : 0 ≤ G ∧ G ≤ (u_32.1 6).toInt ∧ (u_32.1 6).toInt ≤ N := by omega
                have e104170 := tq_addr li_1 z5
                try rw [Int.emod_eq_of_lt (show 0 ≤ (z5).toInt + 1 + 2147483648 by omega) (show (z5).toInt + 1 + 2147483648 < 4294967296 by omega)] at e104170
                have p104171 : 0 ≤ (z5 + 1).toInt ∧ (z5 + 1).toInt ≤ 21 ∧ (z2).toInt ≤ 20 := by omega
                have p104172 : 21 - (z5 + 1).toInt < ((n : Nat) : Int) := by (omega)
                exact ih _ _ _ _ _ _ q104159 p104166 p104167 p104168 p104169 p104171 p104172
              · replace c104165 := q_eq c104165
                rw [li_0] at c104165
                have p104173 : ie [1, 2, 6, 7, 8, 9, 10, 11, 12, 13, 14] u_32.1 A := (ie_tr q104160 (by decide) (ie_up (ie_tr i104021 (by decide) (ie_refl _ _)) (by decide)))
                have p104174 : (0 : Int32).toInt = 0 := by (have := li_0; omega)
                have p104175 : G ≤ (u_32.1 6).toInt ∧ (u_32.1 6).toInt ≤ N := by omega
                exact k _ _ q104159 p104173 p104174 p104175
            · replace c104150 := q_nle c104150
              have : (t0.1 5).toInt = (A 5).toInt := ie_i i104021 5 (by decide)
              have p104176 : (t0.1 5).toInt = N := by omega
              have : (t0.1 0).toInt = (A 0).toInt := ie_i i104021 0 (by decide)
              have p104177 : 0 ≤ (t0.1 0).toInt ∧ (t0.1 0).toInt ≤ 10 := by omega
              have p104178 : 0 ≤ N ∧ N ≤ 400 := by omega
              have p104179 : 0 ≤ R ∧ R ≤ 6 ∧ 0 ≤ W ∧ W ≤ 10 ∧ 0 ≤ R * W ∧ R * W ≤ 40 ∧ 0 ≤ D ∧ D ≤ 4 ∧ (D ≤ 0 ∨ 1 ≤ R) ∧ (1 ≤ R ∨ R * W = 0) := by omega
              have B104180 : mb (N) (R) (W) (D) ((va_up t0.1 6 z4), t0.2.1, t0.2.2.1, t0.2.2.2) := ⟨p104176, p104177, p104178, p104179, i104020.2.2.2.2.1, i104020.2.2.2.2.2.1, i104020.2.2.2.2.2.2.1, i104020.2.2.2.2.2.2.2⟩
              have p104181 : 0 < D := by omega
              have p104182 : 0 ≤ (z4).toInt ∧ (z4).toInt ≤ N := by omega
              have p104183 : (t0.1 14).toInt = 2 := by omega
              refine wq_X7_goesAll_2 B104180 p104181 p104182 p104183 (fun r_34 u_35 q104184 q104185 q104186 q104187 q104188 => ?_)
              have := q104184.1
              have := q104184.2.1
              replace q104186 : (r_34).toInt = 0 ∨ (r_34).toInt = 1 := q104186
              replace q104187 : (z4).toInt ≤ (u_35.1 6).toInt ∧ (u_35.1 6).toInt ≤ N := q104187
              replace q104188 : (r_34).toInt = 0 ∨ (u_35.1 14).toInt = (t0.1 14).toInt := q104188
              refine ⟨fun c104189 => ?_, fun c104190 => ?_⟩
              · replace c104189 := q_neq c104189
                rw [li_0] at c104189
                have p104191 : ie [1, 2, 6, 7, 8, 9, 10, 11, 12, 13, 14] u_35.1 A := (ie_tr q104185 (by decide) (ie_up (ie_tr i104021 (by decide) (ie_refl _ _)) (by decide)))
                have p104192 : (u_35.1 14).toInt = 2 := by omega
                have p104193 : (z4).toInt = G := by omega
                have p104194 : 0 ≤ G ∧ G ≤ (u_35.1 6).toInt ∧ (u_35.1 6).toInt ≤ N := by omega
                have e104195 := tq_addr li_1 z5
                try rw [Int.emod_eq_of_lt (show 0 ≤ (z5).toInt + 1 + 2147483648 by omega) (show (z5).toInt + 1 + 2147483648 < 4294967296 by omega)] at e104195
                have p104196 : 0 ≤ (z5 + 1).toInt ∧ (z5 + 1).toInt ≤ 21 ∧ (z2).toInt ≤ 20 := by omega
                have p104197 : 21 - (z5 + 1).toInt < ((n : Nat) : Int) := by (omega)
                exact ih _ _ _ _ _ _ q104184 p104191 p104192 p104193 p104194 p104196 p104197
              · replace c104190 := q_eq c104190
                rw [li_0] at c104190
                have p104198 : ie [1, 2, 6, 7, 8, 9, 10, 11, 12, 13, 14] u_35.1 A := (ie_tr q104185 (by decide) (ie_up (ie_tr i104021 (by decide) (ie_refl _ _)) (by decide)))
                have p104199 : (0 : Int32).toInt = 0 := by (have := li_0; omega)
                have p104200 : G ≤ (u_35.1 6).toInt ∧ (u_35.1 6).toInt ≤ N := by omega
                exact k _ _ q104184 p104198 p104199 p104200
theorem wq_X7_goesTimes_3_L90b {post : Int32 → Md → Prop} {e141 : Md → Int32 → Int32 → Int32 → Int32 → Int32 → Prop} {D N R W G : Int} {A : Nat → Int32} (h104201 : 0 < D) (ke141 : ∀ (t0 : Md) (z1 : Int32) (z2 : Int32) (z3 : Int32) (z4 : Int32) (z5 : Int32), mb (N) (R) (W) (D) t0 → ie [1, 2, 6, 7, 8, 9, 10, 11, 12, 13, 14] t0.1 A → (t0.1 14).toInt = 2 → (z4).toInt = G → 0 ≤ G ∧ G ≤ (t0.1 6).toInt ∧ (t0.1 6).toInt ≤ N → 0 ≤ (z5).toInt ∧ (z5).toInt ≤ 21 ∧ (z2).toInt ≤ 20 → e141 t0 z1 z2 z3 z4 z5) (k : ∀ (r : Int32) (u : Md), mb (N) (R) (W) (D) u → ie [1, 2, 6, 7, 8, 9, 10, 11, 12, 13, 14] u.1 A → (r).toInt = 0 → G ≤ (u.1 6).toInt ∧ (u.1 6).toInt ≤ N → post r u) : ∀ (n : Nat) (t0 : Md) (z1 : Int32) (z2 : Int32) (z3 : Int32) (z4 : Int32) (z5 : Int32), mb (N) (R) (W) (D) t0 → ie [1, 2, 6, 7, 8, 9, 10, 11, 12, 13, 14] t0.1 A → (t0.1 14).toInt = 2 → (z4).toInt = G → 0 ≤ G ∧ G ≤ (t0.1 6).toInt ∧ (t0.1 6).toInt ≤ N → 0 ≤ (z5).toInt ∧ (z5).toInt ≤ 21 ∧ (z2).toInt ≤ 20 → 21 - (z5).toInt < (n : Int) → wp_X7_goesTimes_3_L90b post e141 n t0 z1 z2 z3 z4 z5 := by
  intro n
  induction n with
  | zero =>
    intro t0 z1 z2 z3 z4 z5 i104202 i104203 i104204 i104205 i104206 i104207 i104208
    have := i104202.1
    have := i104202.2.1
    have := i104202.2.2.1
    have := i104202.2.2.2.1
    exfalso
    omega
  | succ n ih =>
    intro t0 z1 z2 z3 z4 z5 i104202 i104203 i104204 i104205 i104206 i104207 i104208
    unfold wp_X7_goesTimes_3_L90b
    have := i104202.1
    have := i104202.2.1
    have := i104202.2.2.1
    have := i104202.2.2.2.1
    refine ⟨fun c104209 => ?_, fun c104210 => ?_⟩
    · replace c104209 := q_eq c104209
      rw [li_0] at c104209
      refine ⟨fun c104211 => ?_, fun c104212 => ?_⟩
      · replace c104211 := q_eq c104211
        rw [li_0] at c104211
        have : (t0.1 5).toInt = (A 5).toInt := ie_i i104203 5 (by decide)
        have p104213 : (t0.1 5).toInt = N := by omega
        have : (t0.1 0).toInt = (A 0).toInt := ie_i i104203 0 (by decide)
        have p104214 : 0 ≤ (t0.1 0).toInt ∧ (t0.1 0).toInt ≤ 10 := by omega
        have p104215 : 0 ≤ N ∧ N ≤ 400 := by omega
        have p104216 : 0 ≤ R ∧ R ≤ 6 ∧ 0 ≤ W ∧ W ≤ 10 ∧ 0 ≤ R * W ∧ R * W ≤ 40 ∧ 0 ≤ D ∧ D ≤ 4 ∧ (D ≤ 0 ∨ 1 ≤ R) ∧ (1 ≤ R ∨ R * W = 0) := by omega
        have B104217 : mb (N) (R) (W) (D) ((va_up t0.1 6 z4), t0.2.1, t0.2.2.1, t0.2.2.2) := ⟨p104213, p104214, p104215, p104216, i104202.2.2.2.2.1, i104202.2.2.2.2.2.1, i104202.2.2.2.2.2.2.1, i104202.2.2.2.2.2.2.2⟩
        have p104218 : 0 < D := by omega
        have p104219 : 0 ≤ (z4).toInt ∧ (z4).toInt ≤ N := by omega
        have p104220 : (t0.1 14).toInt = 2 := by omega
        refine wq_X7_goesAll_2 B104217 p104218 p104219 p104220 (fun r_48 u_49 q104221 q104222 q104223 q104224 q104225 => ?_)
        have := q104221.1
        have := q104221.2.1
        replace q104223 : (r_48).toInt = 0 ∨ (r_48).toInt = 1 := q104223
        replace q104224 : (z4).toInt ≤ (u_49.1 6).toInt ∧ (u_49.1 6).toInt ≤ N := q104224
        replace q104225 : (r_48).toInt = 0 ∨ (u_49.1 14).toInt = (t0.1 14).toInt := q104225
        refine ⟨fun c104226 => ?_, fun c104227 => ?_⟩
        · replace c104226 := q_neq c104226
          rw [li_0] at c104226
          have p104228 : ie [1, 2, 6, 7, 8, 9, 10, 11, 12, 13, 14] u_49.1 A := (ie_tr q104222 (by decide) (ie_up (ie_tr i104203 (by decide) (ie_refl _ _)) (by decide)))
          have p104229 : (u_49.1 14).toInt = 2 := by omega
          have p104230 : (z4).toInt = G := by omega
          have p104231 : 0 ≤ G ∧ G ≤ (u_49.1 6).toInt ∧ (u_49.1 6).toInt ≤ N := by omega
          have e104232 := tq_addr li_1 z5
          try rw [Int.emod_eq_of_lt (show 0 ≤ (z5).toInt + 1 + 2147483648 by omega) (show (z5).toInt + 1 + 2147483648 < 4294967296 by omega)] at e104232
          have p104233 : 0 ≤ (z5 + 1).toInt ∧ (z5 + 1).toInt ≤ 21 ∧ (z2).toInt ≤ 20 := by omega
          have p104234 : 21 - (z5 + 1).toInt < ((n : Nat) : Int) := by (omega)
          exact ih _ _ _ _ _ _ q104221 p104228 p104229 p104230 p104231 p104233 p104234
        · replace c104227 := q_eq c104227
          rw [li_0] at c104227
          have p104235 : ie [1, 2, 6, 7, 8, 9, 10, 11, 12, 13, 14] u_49.1 A := (ie_tr q104222 (by decide) (ie_up (ie_tr i104203 (by decide) (ie_refl _ _)) (by decide)))
          have p104236 : (0 : Int32).toInt = 0 := by (have := li_0; omega)
          have p104237 : G ≤ (u_49.1 6).toInt ∧ (u_49.1 6).toInt ≤ N := by omega
          exact k _ _ q104221 p104235 p104236 p104237
      · replace c104212 := q_neq c104212
        rw [li_0] at c104212
        refine ⟨fun c104238 => ?_, fun c104239 => ?_⟩
        · replace c104238 := q_le c104238
          have : (t0.1 5).toInt = (A 5).toInt := ie_i i104203 5 (by decide)
          have p104240 : (t0.1 5).toInt = N := by omega
          have : (t0.1 0).toInt = (A 0).toInt := ie_i i104203 0 (by decide)
          have p104241 : 0 ≤ (t0.1 0).toInt ∧ (t0.1 0).toInt ≤ 10 := by omega
          have p104242 : 0 ≤ N ∧ N ≤ 400 := by omega
          have p104243 : 0 ≤ R ∧ R ≤ 6 ∧ 0 ≤ W ∧ W ≤ 10 ∧ 0 ≤ R * W ∧ R * W ≤ 40 ∧ 0 ≤ D ∧ D ≤ 4 ∧ (D ≤ 0 ∨ 1 ≤ R) ∧ (1 ≤ R ∨ R * W = 0) := by omega
          have B104244 : mb (N) (R) (W) (D) ((va_up t0.1 6 z4), t0.2.1, t0.2.2.1, t0.2.2.2) := ⟨p104240, p104241, p104242, p104243, i104202.2.2.2.2.1, i104202.2.2.2.2.2.1, i104202.2.2.2.2.2.2.1, i104202.2.2.2.2.2.2.2⟩
          have p104245 : 0 < D := by omega
          have p104246 : 0 ≤ (z4).toInt ∧ (z4).toInt ≤ N := by omega
          have p104247 : (t0.1 14).toInt = 2 := by omega
          refine wq_X7_goesAll_2 B104244 p104245 p104246 p104247 (fun r_52 u_53 q104248 q104249 q104250 q104251 q104252 => ?_)
          have := q104248.1
          have := q104248.2.1
          replace q104250 : (r_52).toInt = 0 ∨ (r_52).toInt = 1 := q104250
          replace q104251 : (z4).toInt ≤ (u_53.1 6).toInt ∧ (u_53.1 6).toInt ≤ N := q104251
          replace q104252 : (r_52).toInt = 0 ∨ (u_53.1 14).toInt = (t0.1 14).toInt := q104252
          refine ⟨fun c104253 => ?_, fun c104254 => ?_⟩
          · replace c104253 := q_neq c104253
            rw [li_0] at c104253
            have p104255 : ie [1, 2, 6, 7, 8, 9, 10, 11, 12, 13, 14] u_53.1 A := (ie_tr q104249 (by decide) (ie_up (ie_tr i104203 (by decide) (ie_refl _ _)) (by decide)))
            have p104256 : (u_53.1 14).toInt = 2 := by omega
            have p104257 : (z4).toInt = G := by omega
            have p104258 : 0 ≤ G ∧ G ≤ (u_53.1 6).toInt ∧ (u_53.1 6).toInt ≤ N := by omega
            have e104259 := tq_addr li_1 z5
            try rw [Int.emod_eq_of_lt (show 0 ≤ (z5).toInt + 1 + 2147483648 by omega) (show (z5).toInt + 1 + 2147483648 < 4294967296 by omega)] at e104259
            have p104260 : 0 ≤ (z5 + 1).toInt ∧ (z5 + 1).toInt ≤ 21 ∧ (z2).toInt ≤ 20 := by omega
            have p104261 : 21 - (z5 + 1).toInt < ((n : Nat) : Int) := by (omega)
            exact ih _ _ _ _ _ _ q104248 p104255 p104256 p104257 p104258 p104260 p104261
          · replace c104254 := q_eq c104254
            rw [li_0] at c104254
            have p104262 : ie [1, 2, 6, 7, 8, 9, 10, 11, 12, 13, 14] u_53.1 A := (ie_tr q104249 (by decide) (ie_up (ie_tr i104203 (by decide) (ie_refl _ _)) (by decide)))
            have p104263 : (0 : Int32).toInt = 0 := by (have := li_0; omega)
            have p104264 : G ≤ (u_53.1 6).toInt ∧ (u_53.1 6).toInt ≤ N := by omega
            exact k _ _ q104248 p104262 p104263 p104264
        · replace c104239 := q_nle c104239
          have : (t0.1 5).toInt = (A 5).toInt := ie_i i104203 5 (by decide)
          have p104265 : (t0.1 5).toInt = N := by omega
          have : (t0.1 0).toInt = (A 0).toInt := ie_i i104203 0 (by decide)
          have p104266 : 0 ≤ (t0.1 0).toInt ∧ (t0.1 0).toInt ≤ 10 := by omega
          have p104267 : 0 ≤ N ∧ N ≤ 400 := by omega
          have p104268 : 0 ≤ R ∧ R ≤ 6 ∧ 0 ≤ W ∧ W ≤ 10 ∧ 0 ≤ R * W ∧ R * W ≤ 40 ∧ 0 ≤ D ∧ D ≤ 4 ∧ (D ≤ 0 ∨ 1 ≤ R) ∧ (1 ≤ R ∨ R * W = 0) := by omega
          have B104269 : mb (N) (R) (W) (D) ((va_up t0.1 6 z4), t0.2.1, t0.2.2.1, t0.2.2.2) := ⟨p104265, p104266, p104267, p104268, i104202.2.2.2.2.1, i104202.2.2.2.2.2.1, i104202.2.2.2.2.2.2.1, i104202.2.2.2.2.2.2.2⟩
          have p104270 : 0 < D := by omega
          have p104271 : 0 ≤ (z4).toInt ∧ (z4).toInt ≤ N := by omega
          have p104272 : (t0.1 14).toInt = 2 := by omega
          refine wq_X7_goesAll_2 B104269 p104270 p104271 p104272 (fun r_55 u_56 q104273 q104274 q104275 q104276 q104277 => ?_)
          have := q104273.1
          have := q104273.2.1
          replace q104275 : (r_55).toInt = 0 ∨ (r_55).toInt = 1 := q104275
          replace q104276 : (z4).toInt ≤ (u_56.1 6).toInt ∧ (u_56.1 6).toInt ≤ N := q104276
          replace q104277 : (r_55).toInt = 0 ∨ (u_56.1 14).toInt = (t0.1 14).toInt := q104277
          refine ⟨fun c104278 => ?_, fun c104279 => ?_⟩
          · replace c104278 := q_neq c104278
            rw [li_0] at c104278
            have p104280 : ie [1, 2, 6, 7, 8, 9, 10, 11, 12, 13, 14] u_56.1 A := (ie_tr q104274 (by decide) (ie_up (ie_tr i104203 (by decide) (ie_refl _ _)) (by decide)))
            have p104281 : (u_56.1 14).toInt = 2 := by omega
            have p104282 : (z4).toInt = G := by omega
            have p104283 : 0 ≤ G ∧ G ≤ (u_56.1 6).toInt ∧ (u_56.1 6).toInt ≤ N := by omega
            have e104284 := tq_addr li_1 z5
            try rw [Int.emod_eq_of_lt (show 0 ≤ (z5).toInt + 1 + 2147483648 by omega) (show (z5).toInt + 1 + 2147483648 < 4294967296 by omega)] at e104284
            have p104285 : 0 ≤ (z5 + 1).toInt ∧ (z5 + 1).toInt ≤ 21 ∧ (z2).toInt ≤ 20 := by omega
            have p104286 : 21 - (z5 + 1).toInt < ((n : Nat) : Int) := by (omega)
            exact ih _ _ _ _ _ _ q104273 p104280 p104281 p104282 p104283 p104285 p104286
          · replace c104279 := q_eq c104279
            rw [li_0] at c104279
            have p104287 : ie [1, 2, 6, 7, 8, 9, 10, 11, 12, 13, 14] u_56.1 A := (ie_tr q104274 (by decide) (ie_up (ie_tr i104203 (by decide) (ie_refl _ _)) (by decide)))
            have p104288 : (0 : Int32).toInt = 0 := by (have := li_0; omega)
            have p104289 : G ≤ (u_56.1 6).toInt ∧ (u_56.1 6).toInt ≤ N := by omega
            exact k _ _ q104273 p104287 p104288 p104289
    · replace c104210 := q_neq c104210
      rw [li_0] at c104210
      refine ⟨fun c104290 => ?_, fun c104291 => ?_⟩
      · replace c104290 := q_le c104290
        have p104292 : ie [1, 2, 6, 7, 8, 9, 10, 11, 12, 13, 14] t0.1 A := (ie_tr i104203 (by decide) (ie_refl _ _))
        have p104293 : (t0.1 14).toInt = 2 := by omega
        have p104294 : (z4).toInt = G := by omega
        have p104295 : 0 ≤ G ∧ G ≤ (t0.1 6).toInt ∧ (t0.1 6).toInt ≤ N := by omega
        have p104296 : 0 ≤ (z5).toInt ∧ (z5).toInt ≤ 21 ∧ (z2).toInt ≤ 20 := by omega
        exact ke141 _ _ _ _ _ _ i104202 p104292 p104293 p104294 p104295 p104296
      · replace c104291 := q_nle c104291
        refine ⟨fun c104297 => ?_, fun c104298 => ?_⟩
        · replace c104297 := q_eq c104297
          rw [li_0] at c104297
          have p104299 : ie [1, 2, 6, 7, 8, 9, 10, 11, 12, 13, 14] t0.1 A := (ie_tr i104203 (by decide) (ie_refl _ _))
          have p104300 : (t0.1 14).toInt = 2 := by omega
          have p104301 : (z4).toInt = G := by omega
          have p104302 : 0 ≤ G ∧ G ≤ (t0.1 6).toInt ∧ (t0.1 6).toInt ≤ N := by omega
          have p104303 : 0 ≤ (z5).toInt ∧ (z5).toInt ≤ 21 ∧ (z2).toInt ≤ 20 := by omega
          exact ke141 _ _ _ _ _ _ i104202 p104299 p104300 p104301 p104302 p104303
        · replace c104298 := q_neq c104298
          rw [li_0] at c104298
          refine ⟨fun c104304 => ?_, fun c104305 => ?_⟩
          · replace c104304 := q_eq c104304
            rw [li_0] at c104304
            have : (t0.1 5).toInt = (A 5).toInt := ie_i i104203 5 (by decide)
            have p104306 : (t0.1 5).toInt = N := by omega
            have : (t0.1 0).toInt = (A 0).toInt := ie_i i104203 0 (by decide)
            have p104307 : 0 ≤ (t0.1 0).toInt ∧ (t0.1 0).toInt ≤ 10 := by omega
            have p104308 : 0 ≤ N ∧ N ≤ 400 := by omega
            have p104309 : 0 ≤ R ∧ R ≤ 6 ∧ 0 ≤ W ∧ W ≤ 10 ∧ 0 ≤ R * W ∧ R * W ≤ 40 ∧ 0 ≤ D ∧ D ≤ 4 ∧ (D ≤ 0 ∨ 1 ≤ R) ∧ (1 ≤ R ∨ R * W = 0) := by omega
            have B104310 : mb (N) (R) (W) (D) ((va_up t0.1 6 z4), t0.2.1, t0.2.2.1, t0.2.2.2) := ⟨p104306, p104307, p104308, p104309, i104202.2.2.2.2.1, i104202.2.2.2.2.2.1, i104202.2.2.2.2.2.2.1, i104202.2.2.2.2.2.2.2⟩
            have p104311 : 0 < D := by omega
            have p104312 : 0 ≤ (z4).toInt ∧ (z4).toInt ≤ N := by omega
            have p104313 : (t0.1 14).toInt = 2 := by omega
            refine wq_X7_goesAll_2 B104310 p104311 p104312 p104313 (fun r_61 u_62 q104314 q104315 q104316 q104317 q104318 => ?_)
            have := q104314.1
            have := q104314.2.1
            replace q104316 : (r_61).toInt = 0 ∨ (r_61).toInt = 1 := q104316
            replace q104317 : (z4).toInt ≤ (u_62.1 6).toInt ∧ (u_62.1 6).toInt ≤ N := q104317
            replace q104318 : (r_61).toInt = 0 ∨ (u_62.1 14).toInt = (t0.1 14).toInt := q104318
            refine ⟨fun c104319 => ?_, fun c104320 => ?_⟩
            · replace c104319 := q_neq c104319
              rw [li_0] at c104319
              have p104321 : ie [1, 2, 6, 7, 8, 9, 10, 11, 12, 13, 14] u_62.1 A := (ie_tr q104315 (by decide) (ie_up (ie_tr i104203 (by decide) (ie_refl _ _)) (by decide)))
              have p104322 : (u_62.1 14).toInt = 2 := by omega
              have p104323 : (z4).toInt = G := by omega
              have p104324 : 0 ≤ G ∧ G ≤ (u_62.1 6).toInt ∧ (u_62.1 6).toInt ≤ N := by omega
              have e104325 := tq_addr li_1 z5
              try rw [Int.emod_eq_of_lt (show 0 ≤ (z5).toInt + 1 + 2147483648 by omega) (show (z5).toInt + 1 + 2147483648 < 4294967296 by omega)] at e104325
              have p104326 : 0 ≤ (z5 + 1).toInt ∧ (z5 + 1).toInt ≤ 21 ∧ (z2).toInt ≤ 20 := by omega
              have p104327 : 21 - (z5 + 1).toInt < ((n : Nat) : Int) := by (omega)
              exact ih _ _ _ _ _ _ q104314 p104321 p104322 p104323 p104324 p104326 p104327
            · replace c104320 := q_eq c104320
              rw [li_0] at c104320
              have p104328 : ie [1, 2, 6, 7, 8, 9, 10, 11, 12, 13, 14] u_62.1 A := (ie_tr q104315 (by decide) (ie_up (ie_tr i104203 (by decide) (ie_refl _ _)) (by decide)))
              have p104329 : (0 : Int32).toInt = 0 := by (have := li_0; omega)
              have p104330 : G ≤ (u_62.1 6).toInt ∧ (u_62.1 6).toInt ≤ N := by omega
              exact k _ _ q104314 p104328 p104329 p104330
          · replace c104305 := q_neq c104305
            rw [li_0] at c104305
            refine ⟨fun c104331 => ?_, fun c104332 => ?_⟩
            · replace c104331 := q_le c104331
              have : (t0.1 5).toInt = (A 5).toInt := ie_i i104203 5 (by decide)
              have p104333 : (t0.1 5).toInt = N := by omega
              have : (t0.1 0).toInt = (A 0).toInt := ie_i i104203 0 (by decide)
              have p104334 : 0 ≤ (t0.1 0).toInt ∧ (t0.1 0).toInt ≤ 10 := by omega
              have p104335 : 0 ≤ N ∧ N ≤ 400 := by omega
              have p104336 : 0 ≤ R ∧ R ≤ 6 ∧ 0 ≤ W ∧ W ≤ 10 ∧ 0 ≤ R * W ∧ R * W ≤ 40 ∧ 0 ≤ D ∧ D ≤ 4 ∧ (D ≤ 0 ∨ 1 ≤ R) ∧ (1 ≤ R ∨ R * W = 0) := by omega
              have B104337 : mb (N) (R) (W) (D) ((va_up t0.1 6 z4), t0.2.1, t0.2.2.1, t0.2.2.2) := ⟨p104333, p104334, p104335, p104336, i104202.2.2.2.2.1, i104202.2.2.2.2.2.1, i104202.2.2.2.2.2.2.1, i104202.2.2.2.2.2.2.2⟩
              have p104338 : 0 < D := by omega
              have p104339 : 0 ≤ (z4).toInt ∧ (z4).toInt ≤ N := by omega
              have p104340 : (t0.1 14).toInt = 2 := by omega
              refine wq_X7_goesAll_2 B104337 p104338 p104339 p104340 (fun r_65 u_66 q104341 q104342 q104343 q104344 q104345 => ?_)
              have := q104341.1
              have := q104341.2.1
              replace q104343 : (r_65).toInt = 0 ∨ (r_65).toInt = 1 := q104343
              replace q104344 : (z4).toInt ≤ (u_66.1 6).toInt ∧ (u_66.1 6).toInt ≤ N := q104344
              replace q104345 : (r_65).toInt = 0 ∨ (u_66.1 14).toInt = (t0.1 14).toInt := q104345
              refine ⟨fun c104346 => ?_, fun c104347 => ?_⟩
              · replace c104346 := q_neq c104346
                rw [li_0] at c104346
                have p104348 : ie [1, 2, 6, 7, 8, 9, 10, 11, 12, 13, 14] u_66.1 A := (ie_tr q104342 (by decide) (ie_up (ie_tr i104203 (by decide) (ie_refl _ _)) (by decide)))
                have p104349 : (u_66.1 14).toInt = 2 := by omega
                have p104350 : (z4).toInt = G := by omega
                have p104351 : 0 ≤ G ∧ G ≤ (u_66.1 6).toInt ∧ (u_66.1 6).toInt ≤ N := by omega
                have e104352 := tq_addr li_1 z5
                try rw [Int.emod_eq_of_lt (show 0 ≤ (z5).toInt + 1 + 2147483648 by omega) (show (z5).toInt + 1 + 2147483648 < 4294967296 by omega)] at e104352
                have p104353 : 0 ≤ (z5 + 1).toInt ∧ (z5 + 1).toInt ≤ 21 ∧ (z2).toInt ≤ 20 := by omega
                have p104354 : 21 - (z5 + 1).toInt < ((n : Nat) : Int) := by (omega)
                exact ih _ _ _ _ _ _ q104341 p104348 p104349 p104350 p104351 p104353 p104354
              · replace c104347 := q_eq c104347
                rw [li_0] at c104347
                have p104355 : ie [1, 2, 6, 7, 8, 9, 10, 11, 12, 13, 14] u_66.1 A := (ie_tr q104342 (by decide) (ie_up (ie_tr i104203 (by decide) (ie_refl _ _)) (by decide)))
                have p104356 : (0 : Int32).toInt = 0 := by (have := li_0; omega)
                have p104357 : G ≤ (u_66.1 6).toInt ∧ (u_66.1 6).toInt ≤ N := by omega
                exact k _ _ q104341 p104355 p104356 p104357
            · replace c104332 := q_nle c104332
              have : (t0.1 5).toInt = (A 5).toInt := ie_i i104203 5 (by decide)
              have p104358 : (t0.1 5).toInt = N := by omega
              have : (t0.1 0).toInt = (A 0).toInt := ie_i i104203 0 (by decide)
              have p104359 : 0 ≤ (t0.1 0).toInt ∧ (t0.1 0).toInt ≤ 10 := by omega
              have p104360 : 0 ≤ N ∧ N ≤ 400 := by omega
              have p104361 : 0 ≤ R ∧ R ≤ 6 ∧ 0 ≤ W ∧ W ≤ 10 ∧ 0 ≤ R * W ∧ R * W ≤ 40 ∧ 0 ≤ D ∧ D ≤ 4 ∧ (D ≤ 0 ∨ 1 ≤ R) ∧ (1 ≤ R ∨ R * W = 0) := by omega
              have B104362 : mb (N) (R) (W) (D) ((va_up t0.1 6 z4), t0.2.1, t0.2.2.1, t0.2.2.2) := ⟨p104358, p104359, p104360, p104361, i104202.2.2.2.2.1, i104202.2.2.2.2.2.1, i104202.2.2.2.2.2.2.1, i104202.2.2.2.2.2.2.2⟩
              have p104363 : 0 < D := by omega
              have p104364 : 0 ≤ (z4).toInt ∧ (z4).toInt ≤ N := by omega
              have p104365 : (t0.1 14).toInt = 2 := by omega
              refine wq_X7_goesAll_2 B104362 p104363 p104364 p104365 (fun r_68 u_69 q104366 q104367 q104368 q104369 q104370 => ?_)
              have := q104366.1
              have := q104366.2.1
              replace q104368 : (r_68).toInt = 0 ∨ (r_68).toInt = 1 := q104368
              replace q104369 : (z4).toInt ≤ (u_69.1 6).toInt ∧ (u_69.1 6).toInt ≤ N := q104369
              replace q104370 : (r_68).toInt = 0 ∨ (u_69.1 14).toInt = (t0.1 14).toInt := q104370
              refine ⟨fun c104371 => ?_, fun c104372 => ?_⟩
              · replace c104371 := q_neq c104371
                rw [li_0] at c104371
                have p104373 : ie [1, 2, 6, 7, 8, 9, 10, 11, 12, 13, 14] u_69.1 A := (ie_tr q104367 (by decide) (ie_up (ie_tr i104203 (by decide) (ie_refl _ _)) (by decide)))
                have p104374 : (u_69.1 14).toInt = 2 := by omega
                have p104375 : (z4).toInt = G := by omega
                have p104376 : 0 ≤ G ∧ G ≤ (u_69.1 6).toInt ∧ (u_69.1 6).toInt ≤ N := by omega
                have e104377 := tq_addr li_1 z5
                try rw [Int.emod_eq_of_lt (show 0 ≤ (z5).toInt + 1 + 2147483648 by omega) (show (z5).toInt + 1 + 2147483648 < 4294967296 by omega)] at e104377
                have p104378 : 0 ≤ (z5 + 1).toInt ∧ (z5 + 1).toInt ≤ 21 ∧ (z2).toInt ≤ 20 := by omega
                have p104379 : 21 - (z5 + 1).toInt < ((n : Nat) : Int) := by (omega)
                exact ih _ _ _ _ _ _ q104366 p104373 p104374 p104375 p104376 p104378 p104379
              · replace c104372 := q_eq c104372
                rw [li_0] at c104372
                have p104380 : ie [1, 2, 6, 7, 8, 9, 10, 11, 12, 13, 14] u_69.1 A := (ie_tr q104367 (by decide) (ie_up (ie_tr i104203 (by decide) (ie_refl _ _)) (by decide)))
                have p104381 : (0 : Int32).toInt = 0 := by (have := li_0; omega)
                have p104382 : G ≤ (u_69.1 6).toInt ∧ (u_69.1 6).toInt ≤ N := by omega
                exact k _ _ q104366 p104380 p104381 p104382
theorem wq_X7_goesTimes_3 {post : Int32 → Md → Prop} {s0 : Md} {x1 : Int32} {N R W D : Int} (h104383 : mb (N) (R) (W) (D) s0) (h104384 : 0 < D) (h104385 : 0 ≤ (s0.1 6).toInt ∧ (s0.1 6).toInt + 5 ≤ N) (h104386 : (s0.1 14).toInt = 1) (k : ∀ (r : Int32) (u : Md), mb (N) (R) (W) (D) u → ie [1, 2, 6, 7, 8, 9, 10, 11, 12, 13, 14] u.1 s0.1 → (r).toInt = 0 ∨ (r).toInt = 1 → (s0.1 6).toInt ≤ (u.1 6).toInt ∧ (u.1 6).toInt ≤ N → (r).toInt = 0 ∨ (u.1 14).toInt = (s0.1 14).toInt → post r u) : wp_X7_goesTimes_3 post s0 x1 := by
  unfold wp_X7_goesTimes_3
  have := h104383.1
  have := h104383.2.1
  have := h104383.2.2.1
  have := h104383.2.2.2.1
  have p104387 : (s0.1 5).toInt = N := by omega
  have p104388 : 0 ≤ (s0.1 0).toInt ∧ (s0.1 0).toInt ≤ 10 := by omega
  have p104389 : 0 ≤ N ∧ N ≤ 400 := by omega
  have p104390 : 0 ≤ R ∧ R ≤ 6 ∧ 0 ≤ W ∧ W ≤ 10 ∧ 0 ≤ R * W ∧ R * W ≤ 40 ∧ 0 ≤ D ∧ D ≤ 4 ∧ (D ≤ 0 ∨ 1 ≤ R) ∧ (1 ≤ R ∨ R * W = 0) := by omega
  have B104391 : mb (N) (R) (W) (D) ((va_up s0.1 6 ((s0.1 6) + 5)), s0.2.1, s0.2.2.1, s0.2.2.2) := ⟨p104387, p104388, p104389, p104390, h104383.2.2.2.2.1, h104383.2.2.2.2.2.1, h104383.2.2.2.2.2.2.1, h104383.2.2.2.2.2.2.2⟩
  have e104392 := tq_addr li_5 (s0.1 6)
  try rw [Int.emod_eq_of_lt (show 0 ≤ (s0.1 6).toInt + 5 + 2147483648 by omega) (show (s0.1 6).toInt + 5 + 2147483648 < 4294967296 by omega)] at e104392
  have p104393 : 0 ≤ ((s0.1 6) + 5).toInt ∧ ((s0.1 6) + 5).toInt ≤ N := by omega
  refine wq_X7_readsNumber B104391 p104393 (fun r_1 u_2 q104394 q104395 q104396 q104397 q104398 q104399 => ?_)
  have := q104394.1
  have := q104394.2.1
  replace q104396 : (r_1).toInt = 0 ∨ (r_1).toInt = 1 := q104396
  replace q104397 : ((s0.1 6) + 5).toInt ≤ (u_2.1 6).toInt ∧ (u_2.1 6).toInt ≤ N := q104397
  replace q104398 : (r_1).toInt = 0 ∨ (((0 : Int32)).toInt ≤ (u_2.1 8).toInt ∧ (u_2.1 8).toInt ≤ ((20 : Int32)).toInt) := q104398
  try simp only [li_0, li_20] at q104398
  refine ⟨fun c104400 => ?_, fun c104401 => ?_⟩
  · replace c104400 := q_neq c104400
    rw [li_0] at c104400
    have p104402 : 0 ≤ (u_2.1 6).toInt ∧ (u_2.1 6).toInt ≤ N := by omega
    refine wq_X7_nextByte q104394 p104402 (fun r_4 u_5 q104403 q104404 q104405 q104406 q104407 q104408 => ?_)
    have := q104403.1
    have := q104403.2.1
    refine ⟨fun c104409 => ?_, fun c104410 => ?_⟩
    · replace c104409 := q_neq c104409
      rw [li_40] at c104409
      have p104411 : 0 ≤ (u_5.1 6).toInt ∧ (u_5.1 6).toInt ≤ N := by omega
      have p104412 : ¬ ((40 : Int32)).toInt = -1 := by (have := li_40; omega)
      refine wq_X7_mustByte q104403 p104411 p104412 (fun r_7 u_8 q104413 q104414 q104415 q104416 q104417 q104418 => ?_)
      have := q104413.1
      have := q104413.2.1
      refine ⟨fun c104419 => ?_, fun c104420 => ?_⟩
      · replace c104419 := q_neq c104419
        rw [li_0] at c104419
        refine wq_X7_isDone q104413 (fun r_10 u_11 q104421 q104422 q104423 => ?_)
        have := q104421.1
        have := q104421.2.1
        have : (u_11.1 6).toInt = (u_8.1 6).toInt := ie_i q104422 6 (by decide)
        have p104424 : 0 < D := by omega
        have : (u_11.1 5).toInt = (u_8.1 5).toInt := ie_i q104422 5 (by decide)
        have : (u_8.1 5).toInt = (u_5.1 5).toInt := ie_i q104414 5 (by decide)
        have : (u_5.1 5).toInt = (u_2.1 5).toInt := ie_i q104404 5 (by decide)
        have : (u_2.1 5).toInt = (s0.1 5).toInt := ie_i q104395 5 (by decide)
        have p104425 : (u_11.1 5).toInt = N := by omega
        have : (u_11.1 0).toInt = (u_8.1 0).toInt := ie_i q104422 0 (by decide)
        have : (u_8.1 0).toInt = (u_5.1 0).toInt := ie_i q104414 0 (by decide)
        have : (u_5.1 0).toInt = (u_2.1 0).toInt := ie_i q104404 0 (by decide)
        have : (u_2.1 0).toInt = (s0.1 0).toInt := ie_i q104395 0 (by decide)
        have p104426 : 0 ≤ (u_11.1 0).toInt ∧ (u_11.1 0).toInt ≤ 10 := by omega
        have p104427 : 0 ≤ N ∧ N ≤ 400 := by omega
        have p104428 : 0 ≤ R ∧ R ≤ 6 ∧ 0 ≤ W ∧ W ≤ 10 ∧ 0 ≤ R * W ∧ R * W ≤ 40 ∧ 0 ≤ D ∧ D ≤ 4 ∧ (D ≤ 0 ∨ 1 ≤ R) ∧ (1 ≤ R ∨ R * W = 0) := by omega
        have B104429 : mb (N) (R) (W) (D) ((va_up u_11.1 14 ((u_11.1 14) + 1)), u_11.2.1, u_11.2.2.1, u_11.2.2.2) := ⟨p104425, p104426, p104427, p104428, q104421.2.2.2.2.1, q104421.2.2.2.2.2.1, q104421.2.2.2.2.2.2.1, q104421.2.2.2.2.2.2.2⟩
        have p104430 : ie [1, 2, 6, 7, 8, 9, 10, 11, 12, 13, 14] (va_up u_11.1 14 ((u_11.1 14) + 1)) (va_up u_11.1 14 ((u_11.1 14) + 1)) := (ie_refl _ _)
        have : (u_11.1 14).toInt = (u_8.1 14).toInt := ie_i q104422 14 (by decide)
        have : (u_8.1 14).toInt = (u_5.1 14).toInt := ie_i q104414 14 (by decide)
        have : (u_5.1 14).toInt = (u_2.1 14).toInt := ie_i q104404 14 (by decide)
        have : (u_2.1 14).toInt = (s0.1 14).toInt := ie_i q104395 14 (by decide)
        have e104431 := tq_addr li_1 (u_11.1 14)
        try rw [Int.emod_eq_of_lt (show 0 ≤ (u_11.1 14).toInt + 1 + 2147483648 by omega) (show (u_11.1 14).toInt + 1 + 2147483648 < 4294967296 by omega)] at e104431
        have p104432 : ((u_11.1 14) + 1).toInt = 2 := by omega
        have p104433 : (u_11.1 6).toInt = ((u_11.1 6).toInt) := by omega
        have p104434 : 0 ≤ ((u_11.1 6).toInt) ∧ ((u_11.1 6).toInt) ≤ (u_11.1 6).toInt ∧ (u_11.1 6).toInt ≤ N := by omega
        have p104435 : 0 ≤ (0 : Int32).toInt ∧ (0 : Int32).toInt ≤ 21 ∧ (u_2.1 8).toInt ≤ 20 := by (have := li_0; omega)
        obtain ⟨f104436, g104437⟩ := fu_e 50
        have p104438 : 21 - (0 : Int32).toInt < (f104436 : Int) := by (have := li_0; omega)
        refine ⟨f104436, wq_X7_goesTimes_3_L90 p104424 (fun t0 z1 z2 z3 z4 z5 q104439 q104440 q104441 q104442 q104443 q104444 => ?_) (fun r104445 u104446 q104447 q104448 q104449 q104450 => ?_) f104436 _ _ _ _ _ _ B104429 p104430 p104432 p104433 p104434 p104435 p104438⟩
        · have := q104439.1
          have := q104439.2.1
          have p104451 : 0 ≤ (t0.1 6).toInt ∧ (t0.1 6).toInt ≤ N := by omega
          have p104452 : ¬ ((41 : Int32)).toInt = -1 := by (have := li_41; omega)
          refine wq_X7_mustByte q104439 p104451 p104452 (fun r_37 u_38 q104453 q104454 q104455 q104456 q104457 q104458 => ?_)
          have := q104453.1
          have := q104453.2.1
          refine ⟨fun c104459 => ?_, fun c104460 => ?_⟩
          · replace c104459 := q_neq c104459
            rw [li_0] at c104459
            have : (u_38.1 5).toInt = (t0.1 5).toInt := ie_i q104454 5 (by decide)
            have : (t0.1 5).toInt = (u_11.1 5).toInt := ie_i q104440 5 (by decide)
            have p104461 : (u_38.1 5).toInt = N := by omega
            have : (u_38.1 0).toInt = (t0.1 0).toInt := ie_i q104454 0 (by decide)
            have : (t0.1 0).toInt = (u_11.1 0).toInt := ie_i q104440 0 (by decide)
            have p104462 : 0 ≤ (u_38.1 0).toInt ∧ (u_38.1 0).toInt ≤ 10 := by omega
            have p104463 : 0 ≤ N ∧ N ≤ 400 := by omega
            have p104464 : 0 ≤ R ∧ R ≤ 6 ∧ 0 ≤ W ∧ W ≤ 10 ∧ 0 ≤ R * W ∧ R * W ≤ 40 ∧ 0 ≤ D ∧ D ≤ 4 ∧ (D ≤ 0 ∨ 1 ≤ R) ∧ (1 ≤ R ∨ R * W = 0) := by omega
            have B104465 : mb (N) (R) (W) (D) ((va_up u_38.1 14 ((u_38.1 14) - 1)), u_38.2.1, u_38.2.2.1, u_38.2.2.2) := ⟨p104461, p104462, p104463, p104464, q104453.2.2.2.2.1, q104453.2.2.2.2.2.1, q104453.2.2.2.2.2.2.1, q104453.2.2.2.2.2.2.2⟩
            have p104466 : ie [1, 2, 6, 7, 8, 9, 10, 11, 12, 13, 14] (va_up u_38.1 14 ((u_38.1 14) - 1)) s0.1 := (ie_up (ie_tr q104454 (by decide) (ie_tr q104440 (by decide) (ie_up (ie_tr q104422 (by decide) (ie_tr q104414 (by decide) (ie_tr q104404 (by decide) (ie_tr q104395 (by decide) (ie_up (ie_refl _ _) (by decide)))))) (by decide)))) (by decide))
            have p104467 : (1 : Int32).toInt = 0 ∨ (1 : Int32).toInt = 1 := by (have := li_1; omega)
            have p104468 : (s0.1 6).toInt ≤ (u_38.1 6).toInt ∧ (u_38.1 6).toInt ≤ N := by omega
            have : (u_38.1 14).toInt = (t0.1 14).toInt := ie_i q104454 14 (by decide)
            have e104469 := tq_subr li_1 (u_38.1 14)
            try rw [Int.emod_eq_of_lt (show 0 ≤ (u_38.1 14).toInt - 1 + 2147483648 by omega) (show (u_38.1 14).toInt - 1 + 2147483648 < 4294967296 by omega)] at e104469
            have p104470 : (1 : Int32).toInt = 0 ∨ ((u_38.1 14) - 1).toInt = (s0.1 14).toInt := by (have := li_1; omega)
            exact k _ _ B104465 p104466 p104467 p104468 p104470
          · replace c104460 := q_eq c104460
            rw [li_0] at c104460
            have p104471 : ie [1, 2, 6, 7, 8, 9, 10, 11, 12, 13, 14] u_38.1 s0.1 := (ie_tr q104454 (by decide) (ie_tr q104440 (by decide) (ie_up (ie_tr q104422 (by decide) (ie_tr q104414 (by decide) (ie_tr q104404 (by decide) (ie_tr q104395 (by decide) (ie_up (ie_refl _ _) (by decide)))))) (by decide))))
            have p104472 : (0 : Int32).toInt = 0 ∨ (0 : Int32).toInt = 1 := by (have := li_0; omega)
            have p104473 : (s0.1 6).toInt ≤ (u_38.1 6).toInt ∧ (u_38.1 6).toInt ≤ N := by omega
            have : (u_38.1 14).toInt = (t0.1 14).toInt := ie_i q104454 14 (by decide)
            have p104474 : (0 : Int32).toInt = 0 ∨ (u_38.1 14).toInt = (s0.1 14).toInt := by (have := li_0; omega)
            exact k _ _ q104453 p104471 p104472 p104473 p104474
        · have := q104447.1
          have := q104447.2.1
          have p104475 : ie [1, 2, 6, 7, 8, 9, 10, 11, 12, 13, 14] u104446.1 s0.1 := (ie_tr q104448 (by decide) (ie_up (ie_tr q104422 (by decide) (ie_tr q104414 (by decide) (ie_tr q104404 (by decide) (ie_tr q104395 (by decide) (ie_up (ie_refl _ _) (by decide)))))) (by decide)))
          have p104476 : (r104445).toInt = 0 ∨ (r104445).toInt = 1 := by omega
          have p104477 : (s0.1 6).toInt ≤ (u104446.1 6).toInt ∧ (u104446.1 6).toInt ≤ N := by omega
          have p104478 : (r104445).toInt = 0 ∨ (u104446.1 14).toInt = (s0.1 14).toInt := by omega
          exact k _ _ q104447 p104475 p104476 p104477 p104478
      · replace c104420 := q_eq c104420
        rw [li_0] at c104420
        have p104479 : ie [1, 2, 6, 7, 8, 9, 10, 11, 12, 13, 14] u_8.1 s0.1 := (ie_tr q104414 (by decide) (ie_tr q104404 (by decide) (ie_tr q104395 (by decide) (ie_up (ie_refl _ _) (by decide)))))
        have p104480 : (0 : Int32).toInt = 0 ∨ (0 : Int32).toInt = 1 := by (have := li_0; omega)
        have p104481 : (s0.1 6).toInt ≤ (u_8.1 6).toInt ∧ (u_8.1 6).toInt ≤ N := by omega
        have : (u_8.1 14).toInt = (u_5.1 14).toInt := ie_i q104414 14 (by decide)
        have : (u_5.1 14).toInt = (u_2.1 14).toInt := ie_i q104404 14 (by decide)
        have : (u_2.1 14).toInt = (s0.1 14).toInt := ie_i q104395 14 (by decide)
        have p104482 : (0 : Int32).toInt = 0 ∨ (u_8.1 14).toInt = (s0.1 14).toInt := by (have := li_0; omega)
        exact k _ _ q104413 p104479 p104480 p104481 p104482
    · replace c104410 := q_eq c104410
      rw [li_40] at c104410
      refine ⟨fun c104483 => ?_, fun c104484 => ?_⟩
      · replace c104483 := q_neq c104483
        rw [li_3] at c104483
        have : (u_5.1 14).toInt = (u_2.1 14).toInt := ie_i q104404 14 (by decide)
        have : (u_2.1 14).toInt = (s0.1 14).toInt := ie_i q104395 14 (by decide)
        have p104485 : 0 ≤ (u_5.1 6).toInt ∧ (u_5.1 6).toInt ≤ N := by omega
        have p104486 : ¬ ((40 : Int32)).toInt = -1 := by (have := li_40; omega)
        refine wq_X7_mustByte q104403 p104485 p104486 (fun r_41 u_42 q104487 q104488 q104489 q104490 q104491 q104492 => ?_)
        have := q104487.1
        have := q104487.2.1
        refine ⟨fun c104493 => ?_, fun c104494 => ?_⟩
        · replace c104493 := q_neq c104493
          rw [li_0] at c104493
          refine wq_X7_isDone q104487 (fun r_44 u_45 q104495 q104496 q104497 => ?_)
          have := q104495.1
          have := q104495.2.1
          have : (u_45.1 6).toInt = (u_42.1 6).toInt := ie_i q104496 6 (by decide)
          have p104498 : 0 < D := by omega
          have : (u_45.1 5).toInt = (u_42.1 5).toInt := ie_i q104496 5 (by decide)
          have : (u_42.1 5).toInt = (u_5.1 5).toInt := ie_i q104488 5 (by decide)
          have : (u_5.1 5).toInt = (u_2.1 5).toInt := ie_i q104404 5 (by decide)
          have : (u_2.1 5).toInt = (s0.1 5).toInt := ie_i q104395 5 (by decide)
          have p104499 : (u_45.1 5).toInt = N := by omega
          have : (u_45.1 0).toInt = (u_42.1 0).toInt := ie_i q104496 0 (by decide)
          have : (u_42.1 0).toInt = (u_5.1 0).toInt := ie_i q104488 0 (by decide)
          have : (u_5.1 0).toInt = (u_2.1 0).toInt := ie_i q104404 0 (by decide)
          have : (u_2.1 0).toInt = (s0.1 0).toInt := ie_i q104395 0 (by decide)
          have p104500 : 0 ≤ (u_45.1 0).toInt ∧ (u_45.1 0).toInt ≤ 10 := by omega
          have p104501 : 0 ≤ N ∧ N ≤ 400 := by omega
          have p104502 : 0 ≤ R ∧ R ≤ 6 ∧ 0 ≤ W ∧ W ≤ 10 ∧ 0 ≤ R * W ∧ R * W ≤ 40 ∧ 0 ≤ D ∧ D ≤ 4 ∧ (D ≤ 0 ∨ 1 ≤ R) ∧ (1 ≤ R ∨ R * W = 0) := by omega
          have B104503 : mb (N) (R) (W) (D) ((va_up u_45.1 14 ((u_45.1 14) + 1)), u_45.2.1, u_45.2.2.1, u_45.2.2.2) := ⟨p104499, p104500, p104501, p104502, q104495.2.2.2.2.1, q104495.2.2.2.2.2.1, q104495.2.2.2.2.2.2.1, q104495.2.2.2.2.2.2.2⟩
          have p104504 : ie [1, 2, 6, 7, 8, 9, 10, 11, 12, 13, 14] (va_up u_45.1 14 ((u_45.1 14) + 1)) (va_up u_45.1 14 ((u_45.1 14) + 1)) := (ie_refl _ _)
          have : (u_45.1 14).toInt = (u_42.1 14).toInt := ie_i q104496 14 (by decide)
          have : (u_42.1 14).toInt = (u_5.1 14).toInt := ie_i q104488 14 (by decide)
          have e104505 := tq_addr li_1 (u_45.1 14)
          try rw [Int.emod_eq_of_lt (show 0 ≤ (u_45.1 14).toInt + 1 + 2147483648 by omega) (show (u_45.1 14).toInt + 1 + 2147483648 < 4294967296 by omega)] at e104505
          have p104506 : ((u_45.1 14) + 1).toInt = 2 := by omega
          have p104507 : (u_45.1 6).toInt = ((u_45.1 6).toInt) := by omega
          have p104508 : 0 ≤ ((u_45.1 6).toInt) ∧ ((u_45.1 6).toInt) ≤ (u_45.1 6).toInt ∧ (u_45.1 6).toInt ≤ N := by omega
          have p104509 : 0 ≤ (0 : Int32).toInt ∧ (0 : Int32).toInt ≤ 21 ∧ (u_2.1 8).toInt ≤ 20 := by (have := li_0; omega)
          obtain ⟨f104510, g104511⟩ := fu_e 50
          have p104512 : 21 - (0 : Int32).toInt < (f104510 : Int) := by (have := li_0; omega)
          refine ⟨f104510, wq_X7_goesTimes_3_L90b p104498 (fun t0 z1 z2 z3 z4 z5 q104513 q104514 q104515 q104516 q104517 q104518 => ?_) (fun r104519 u104520 q104521 q104522 q104523 q104524 => ?_) f104510 _ _ _ _ _ _ B104503 p104504 p104506 p104507 p104508 p104509 p104512⟩
          · have := q104513.1
            have := q104513.2.1
            have p104525 : 0 ≤ (t0.1 6).toInt ∧ (t0.1 6).toInt ≤ N := by omega
            have p104526 : ¬ ((41 : Int32)).toInt = -1 := by (have := li_41; omega)
            refine wq_X7_mustByte q104513 p104525 p104526 (fun r_71 u_72 q104527 q104528 q104529 q104530 q104531 q104532 => ?_)
            have := q104527.1
            have := q104527.2.1
            refine ⟨fun c104533 => ?_, fun c104534 => ?_⟩
            · replace c104533 := q_neq c104533
              rw [li_0] at c104533
              have : (u_72.1 5).toInt = (t0.1 5).toInt := ie_i q104528 5 (by decide)
              have : (t0.1 5).toInt = (u_45.1 5).toInt := ie_i q104514 5 (by decide)
              have p104535 : (u_72.1 5).toInt = N := by omega
              have : (u_72.1 0).toInt = (t0.1 0).toInt := ie_i q104528 0 (by decide)
              have : (t0.1 0).toInt = (u_45.1 0).toInt := ie_i q104514 0 (by decide)
              have p104536 : 0 ≤ (u_72.1 0).toInt ∧ (u_72.1 0).toInt ≤ 10 := by omega
              have p104537 : 0 ≤ N ∧ N ≤ 400 := by omega
              have p104538 : 0 ≤ R ∧ R ≤ 6 ∧ 0 ≤ W ∧ W ≤ 10 ∧ 0 ≤ R * W ∧ R * W ≤ 40 ∧ 0 ≤ D ∧ D ≤ 4 ∧ (D ≤ 0 ∨ 1 ≤ R) ∧ (1 ≤ R ∨ R * W = 0) := by omega
              have B104539 : mb (N) (R) (W) (D) ((va_up u_72.1 14 ((u_72.1 14) - 1)), u_72.2.1, u_72.2.2.1, u_72.2.2.2) := ⟨p104535, p104536, p104537, p104538, q104527.2.2.2.2.1, q104527.2.2.2.2.2.1, q104527.2.2.2.2.2.2.1, q104527.2.2.2.2.2.2.2⟩
              have p104540 : ie [1, 2, 6, 7, 8, 9, 10, 11, 12, 13, 14] (va_up u_72.1 14 ((u_72.1 14) - 1)) s0.1 := (ie_up (ie_tr q104528 (by decide) (ie_tr q104514 (by decide) (ie_up (ie_tr q104496 (by decide) (ie_tr q104488 (by decide) (ie_tr q104404 (by decide) (ie_tr q104395 (by decide) (ie_up (ie_refl _ _) (by decide)))))) (by decide)))) (by decide))
              have p104541 : (1 : Int32).toInt = 0 ∨ (1 : Int32).toInt = 1 := by (have := li_1; omega)
              have p104542 : (s0.1 6).toInt ≤ (u_72.1 6).toInt ∧ (u_72.1 6).toInt ≤ N := by omega
              have : (u_72.1 14).toInt = (t0.1 14).toInt := ie_i q104528 14 (by decide)
              have e104543 := tq_subr li_1 (u_72.1 14)
              try rw [Int.emod_eq_of_lt (show 0 ≤ (u_72.1 14).toInt - 1 + 2147483648 by omega) (show (u_72.1 14).toInt - 1 + 2147483648 < 4294967296 by omega)] at e104543
              have p104544 : (1 : Int32).toInt = 0 ∨ ((u_72.1 14) - 1).toInt = (s0.1 14).toInt := by (have := li_1; omega)
              exact k _ _ B104539 p104540 p104541 p104542 p104544
            · replace c104534 := q_eq c104534
              rw [li_0] at c104534
              have p104545 : ie [1, 2, 6, 7, 8, 9, 10, 11, 12, 13, 14] u_72.1 s0.1 := (ie_tr q104528 (by decide) (ie_tr q104514 (by decide) (ie_up (ie_tr q104496 (by decide) (ie_tr q104488 (by decide) (ie_tr q104404 (by decide) (ie_tr q104395 (by decide) (ie_up (ie_refl _ _) (by decide)))))) (by decide))))
              have p104546 : (0 : Int32).toInt = 0 ∨ (0 : Int32).toInt = 1 := by (have := li_0; omega)
              have p104547 : (s0.1 6).toInt ≤ (u_72.1 6).toInt ∧ (u_72.1 6).toInt ≤ N := by omega
              have : (u_72.1 14).toInt = (t0.1 14).toInt := ie_i q104528 14 (by decide)
              have p104548 : (0 : Int32).toInt = 0 ∨ (u_72.1 14).toInt = (s0.1 14).toInt := by (have := li_0; omega)
              exact k _ _ q104527 p104545 p104546 p104547 p104548
          · have := q104521.1
            have := q104521.2.1
            have p104549 : ie [1, 2, 6, 7, 8, 9, 10, 11, 12, 13, 14] u104520.1 s0.1 := (ie_tr q104522 (by decide) (ie_up (ie_tr q104496 (by decide) (ie_tr q104488 (by decide) (ie_tr q104404 (by decide) (ie_tr q104395 (by decide) (ie_up (ie_refl _ _) (by decide)))))) (by decide)))
            have p104550 : (r104519).toInt = 0 ∨ (r104519).toInt = 1 := by omega
            have p104551 : (s0.1 6).toInt ≤ (u104520.1 6).toInt ∧ (u104520.1 6).toInt ≤ N := by omega
            have p104552 : (r104519).toInt = 0 ∨ (u104520.1 14).toInt = (s0.1 14).toInt := by omega
            exact k _ _ q104521 p104549 p104550 p104551 p104552
        · replace c104494 := q_eq c104494
          rw [li_0] at c104494
          have p104553 : ie [1, 2, 6, 7, 8, 9, 10, 11, 12, 13, 14] u_42.1 s0.1 := (ie_tr q104488 (by decide) (ie_tr q104404 (by decide) (ie_tr q104395 (by decide) (ie_up (ie_refl _ _) (by decide)))))
          have p104554 : (0 : Int32).toInt = 0 ∨ (0 : Int32).toInt = 1 := by (have := li_0; omega)
          have p104555 : (s0.1 6).toInt ≤ (u_42.1 6).toInt ∧ (u_42.1 6).toInt ≤ N := by omega
          have : (u_42.1 14).toInt = (u_5.1 14).toInt := ie_i q104488 14 (by decide)
          have p104556 : (0 : Int32).toInt = 0 ∨ (u_42.1 14).toInt = (s0.1 14).toInt := by (have := li_0; omega)
          exact k _ _ q104487 p104553 p104554 p104555 p104556
      · replace c104484 := q_eq c104484
        rw [li_3] at c104484
        have : (u_5.1 14).toInt = (u_2.1 14).toInt := ie_i q104404 14 (by decide)
        have : (u_2.1 14).toInt = (s0.1 14).toInt := ie_i q104395 14 (by decide)
        refine wq_X7_fails q104403 (fun r_74 u_75 q104557 q104558 q104559 q104560 => ?_)
        have := q104557.1
        have := q104557.2.1
        refine ⟨(nb_b (by omega)), ?_⟩
        have p104561 : ie [1, 2, 6, 7, 8, 9, 10, 11, 12, 13, 14] u_75.1 s0.1 := (ie_tr q104558 (by decide) (ie_tr q104404 (by decide) (ie_tr q104395 (by decide) (ie_up (ie_refl _ _) (by decide)))))
        have p104562 : (r_74).toInt = 0 ∨ (r_74).toInt = 1 := by omega
        have : (u_75.1 6).toInt = (u_5.1 6).toInt := ie_i q104558 6 (by decide)
        have p104563 : (s0.1 6).toInt ≤ (u_75.1 6).toInt ∧ (u_75.1 6).toInt ≤ N := by omega
        have : (u_75.1 14).toInt = (u_5.1 14).toInt := ie_i q104558 14 (by decide)
        have p104564 : (r_74).toInt = 0 ∨ (u_75.1 14).toInt = (s0.1 14).toInt := by omega
        exact k _ _ q104557 p104561 p104562 p104563 p104564
  · replace c104401 := q_eq c104401
    rw [li_0] at c104401
    have p104565 : ie [1, 2, 6, 7, 8, 9, 10, 11, 12, 13, 14] u_2.1 s0.1 := (ie_tr q104395 (by decide) (ie_up (ie_refl _ _) (by decide)))
    have p104566 : (0 : Int32).toInt = 0 ∨ (0 : Int32).toInt = 1 := by (have := li_0; omega)
    have p104567 : (s0.1 6).toInt ≤ (u_2.1 6).toInt ∧ (u_2.1 6).toInt ≤ N := by omega
    have : (u_2.1 14).toInt = (s0.1 14).toInt := ie_i q104395 14 (by decide)
    have p104568 : (0 : Int32).toInt = 0 ∨ (u_2.1 14).toInt = (s0.1 14).toInt := by (have := li_0; omega)
    exact k _ _ q104394 p104565 p104566 p104567 p104568
theorem wq_X7_goesOne_3 {post : Int32 → Md → Prop} {s0 : Md} {x1 : Int32} {N R W D : Int} (h104569 : mb (N) (R) (W) (D) s0) (h104570 : 0 < D) (h104571 : 0 ≤ (s0.1 6).toInt ∧ (s0.1 6).toInt ≤ N) (h104572 : (s0.1 14).toInt = 1) (k : ∀ (r : Int32) (u : Md), mb (N) (R) (W) (D) u → ie [1, 2, 6, 7, 8, 9, 10, 11, 12, 13, 14] u.1 s0.1 → (r).toInt = 0 ∨ (r).toInt = 1 → (s0.1 6).toInt ≤ (u.1 6).toInt ∧ (u.1 6).toInt ≤ N → (r).toInt = 0 ∨ (u.1 14).toInt = (s0.1 14).toInt → post r u) : wp_X7_goesOne_3 post s0 x1 := by
  unfold wp_X7_goesOne_3
  have := h104569.1
  have := h104569.2.1
  have := h104569.2.2.1
  have := h104569.2.2.2.1
  have p104573 : 0 ≤ (s0.1 6).toInt ∧ (s0.1 6).toInt ≤ N := by omega
  have p104574 : 1 ≤ ln 5 ∧ ln 5 ≤ 9 := by first | assumption | decide
  refine wq_X7_isWord h104569 p104573 p104574 (fun r_1 u_2 q104575 q104576 q104577 q104578 q104579 q104580 q104581 => ?_)
  have := q104575.1
  have := q104575.2.1
  have := ln_5
  refine ⟨fun c104582 => ?_, fun c104583 => ?_⟩
  · replace c104582 := q_eq c104582
    rw [li_0] at c104582
    have p104584 : 0 ≤ (u_2.1 6).toInt ∧ (u_2.1 6).toInt ≤ N := by omega
    have p104585 : 1 ≤ ln 7 ∧ ln 7 ≤ 9 := by first | assumption | decide
    refine wq_X7_isWord q104575 p104584 p104585 (fun r_4 u_5 q104586 q104587 q104588 q104589 q104590 q104591 q104592 => ?_)
    have := q104586.1
    have := q104586.2.1
    have := ln_7
    refine ⟨fun c104593 => ?_, fun c104594 => ?_⟩
    · replace c104593 := q_eq c104593
      rw [li_0] at c104593
      have p104595 : 0 ≤ (u_5.1 6).toInt ∧ (u_5.1 6).toInt ≤ N := by omega
      have p104596 : 1 ≤ ln 8 ∧ ln 8 ≤ 9 := by first | assumption | decide
      refine wq_X7_isWord q104586 p104595 p104596 (fun r_7 u_8 q104597 q104598 q104599 q104600 q104601 q104602 q104603 => ?_)
      have := q104597.1
      have := q104597.2.1
      have := ln_8
      refine ⟨fun c104604 => ?_, fun c104605 => ?_⟩
      · replace c104604 := q_eq c104604
        rw [li_0] at c104604
        have p104606 : 0 ≤ (u_8.1 6).toInt ∧ (u_8.1 6).toInt ≤ N := by omega
        have p104607 : 1 ≤ ln 9 ∧ ln 9 ≤ 9 := by first | assumption | decide
        refine wq_X7_isWord q104597 p104606 p104607 (fun r_10 u_11 q104608 q104609 q104610 q104611 q104612 q104613 q104614 => ?_)
        have := q104608.1
        have := q104608.2.1
        have := ln_9
        refine ⟨fun c104615 => ?_, fun c104616 => ?_⟩
        · replace c104615 := q_eq c104615
          rw [li_0] at c104615
          have p104617 : 0 ≤ (u_11.1 6).toInt ∧ (u_11.1 6).toInt ≤ N := by omega
          have p104618 : 1 ≤ ln 10 ∧ ln 10 ≤ 9 := by first | assumption | decide
          refine wq_X7_isWord q104608 p104617 p104618 (fun r_13 u_14 q104619 q104620 q104621 q104622 q104623 q104624 q104625 => ?_)
          have := q104619.1
          have := q104619.2.1
          have := ln_10
          refine ⟨fun c104626 => ?_, fun c104627 => ?_⟩
          · replace c104626 := q_eq c104626
            rw [li_0] at c104626
            have p104628 : 0 ≤ (u_14.1 6).toInt ∧ (u_14.1 6).toInt ≤ N := by omega
            have p104629 : 1 ≤ ln 6 ∧ ln 6 ≤ 9 := by first | assumption | decide
            refine wq_X7_isWord q104619 p104628 p104629 (fun r_16 u_17 q104630 q104631 q104632 q104633 q104634 q104635 q104636 => ?_)
            have := q104630.1
            have := q104630.2.1
            have := ln_6
            refine ⟨fun c104637 => ?_, fun c104638 => ?_⟩
            · replace c104637 := q_eq c104637
              rw [li_0] at c104637
              have p104639 : 0 ≤ (u_17.1 6).toInt ∧ (u_17.1 6).toInt ≤ N := by omega
              have p104640 : 1 ≤ ln 11 ∧ ln 11 ≤ 9 := by first | assumption | decide
              refine wq_X7_isWord q104630 p104639 p104640 (fun r_19 u_20 q104641 q104642 q104643 q104644 q104645 q104646 q104647 => ?_)
              have := q104641.1
              have := q104641.2.1
              have := ln_11
              refine ⟨fun c104648 => ?_, fun c104649 => ?_⟩
              · replace c104648 := q_eq c104648
                rw [li_0] at c104648
                refine wq_X7_fails q104641 (fun r_22 u_23 q104650 q104651 q104652 q104653 => ?_)
                have := q104650.1
                have := q104650.2.1
                refine ⟨(nb_b (by omega)), ?_⟩
                have p104654 : ie [1, 2, 6, 7, 8, 9, 10, 11, 12, 13, 14] u_23.1 s0.1 := (ie_tr q104651 (by decide) (ie_tr q104642 (by decide) (ie_tr q104631 (by decide) (ie_tr q104620 (by decide) (ie_tr q104609 (by decide) (ie_tr q104598 (by decide) (ie_tr q104587 (by decide) (ie_tr q104576 (by decide) (ie_refl _ _)))))))))
                have p104655 : (r_22).toInt = 0 ∨ (r_22).toInt = 1 := by omega
                have : (u_23.1 6).toInt = (u_20.1 6).toInt := ie_i q104651 6 (by decide)
                have p104656 : (s0.1 6).toInt ≤ (u_23.1 6).toInt ∧ (u_23.1 6).toInt ≤ N := by omega
                have : (u_23.1 14).toInt = (u_20.1 14).toInt := ie_i q104651 14 (by decide)
                have : (u_20.1 14).toInt = (u_17.1 14).toInt := ie_i q104642 14 (by decide)
                have : (u_17.1 14).toInt = (u_14.1 14).toInt := ie_i q104631 14 (by decide)
                have : (u_14.1 14).toInt = (u_11.1 14).toInt := ie_i q104620 14 (by decide)
                have : (u_11.1 14).toInt = (u_8.1 14).toInt := ie_i q104609 14 (by decide)
                have : (u_8.1 14).toInt = (u_5.1 14).toInt := ie_i q104598 14 (by decide)
                have : (u_5.1 14).toInt = (u_2.1 14).toInt := ie_i q104587 14 (by decide)
                have : (u_2.1 14).toInt = (s0.1 14).toInt := ie_i q104576 14 (by decide)
                have p104657 : (r_22).toInt = 0 ∨ (u_23.1 14).toInt = (s0.1 14).toInt := by omega
                exact k _ _ q104650 p104654 p104655 p104656 p104657
              · replace c104649 := q_neq c104649
                rw [li_0] at c104649
                have p104658 : 0 < D := by omega
                have p104659 : 0 ≤ (u_20.1 6).toInt ∧ (u_20.1 6).toInt + 5 ≤ N := by omega
                have : (u_20.1 14).toInt = (u_17.1 14).toInt := ie_i q104642 14 (by decide)
                have : (u_17.1 14).toInt = (u_14.1 14).toInt := ie_i q104631 14 (by decide)
                have : (u_14.1 14).toInt = (u_11.1 14).toInt := ie_i q104620 14 (by decide)
                have : (u_11.1 14).toInt = (u_8.1 14).toInt := ie_i q104609 14 (by decide)
                have : (u_8.1 14).toInt = (u_5.1 14).toInt := ie_i q104598 14 (by decide)
                have : (u_5.1 14).toInt = (u_2.1 14).toInt := ie_i q104587 14 (by decide)
                have : (u_2.1 14).toInt = (s0.1 14).toInt := ie_i q104576 14 (by decide)
                have p104660 : (u_20.1 14).toInt = 1 := by omega
                refine wq_X7_goesTimes_3 q104641 p104658 p104659 p104660 (fun r_25 u_26 q104661 q104662 q104663 q104664 q104665 => ?_)
                have := q104661.1
                have := q104661.2.1
                refine ⟨(nb_b (by omega)), ?_⟩
                have p104666 : ie [1, 2, 6, 7, 8, 9, 10, 11, 12, 13, 14] u_26.1 s0.1 := (ie_tr q104662 (by decide) (ie_tr q104642 (by decide) (ie_tr q104631 (by decide) (ie_tr q104620 (by decide) (ie_tr q104609 (by decide) (ie_tr q104598 (by decide) (ie_tr q104587 (by decide) (ie_tr q104576 (by decide) (ie_refl _ _)))))))))
                have p104667 : (r_25).toInt = 0 ∨ (r_25).toInt = 1 := by omega
                have p104668 : (s0.1 6).toInt ≤ (u_26.1 6).toInt ∧ (u_26.1 6).toInt ≤ N := by omega
                have p104669 : (r_25).toInt = 0 ∨ (u_26.1 14).toInt = (s0.1 14).toInt := by omega
                exact k _ _ q104661 p104666 p104667 p104668 p104669
            · replace c104638 := q_neq c104638
              rw [li_0] at c104638
              have p104670 : 0 < D := by omega
              have p104671 : 0 ≤ (u_17.1 6).toInt ∧ (u_17.1 6).toInt + 4 ≤ N := by omega
              refine wq_X7_goesLose q104630 p104670 p104671 (fun r_28 u_29 q104672 q104673 q104674 q104675 => ?_)
              have := q104672.1
              have := q104672.2.1
              refine ⟨(nb_b (by omega)), ?_⟩
              have p104676 : ie [1, 2, 6, 7, 8, 9, 10, 11, 12, 13, 14] u_29.1 s0.1 := (ie_tr q104673 (by decide) (ie_tr q104631 (by decide) (ie_tr q104620 (by decide) (ie_tr q104609 (by decide) (ie_tr q104598 (by decide) (ie_tr q104587 (by decide) (ie_tr q104576 (by decide) (ie_refl _ _))))))))
              have p104677 : (r_28).toInt = 0 ∨ (r_28).toInt = 1 := by omega
              have p104678 : (s0.1 6).toInt ≤ (u_29.1 6).toInt ∧ (u_29.1 6).toInt ≤ N := by omega
              have : (u_29.1 14).toInt = (u_17.1 14).toInt := ie_i q104673 14 (by decide)
              have : (u_17.1 14).toInt = (u_14.1 14).toInt := ie_i q104631 14 (by decide)
              have : (u_14.1 14).toInt = (u_11.1 14).toInt := ie_i q104620 14 (by decide)
              have : (u_11.1 14).toInt = (u_8.1 14).toInt := ie_i q104609 14 (by decide)
              have : (u_8.1 14).toInt = (u_5.1 14).toInt := ie_i q104598 14 (by decide)
              have : (u_5.1 14).toInt = (u_2.1 14).toInt := ie_i q104587 14 (by decide)
              have : (u_2.1 14).toInt = (s0.1 14).toInt := ie_i q104576 14 (by decide)
              have p104679 : (r_28).toInt = 0 ∨ (u_29.1 14).toInt = (s0.1 14).toInt := by omega
              exact k _ _ q104672 p104676 p104677 p104678 p104679
          · replace c104627 := q_neq c104627
            rw [li_0] at c104627
            have p104680 : 0 < D := by omega
            have p104681 : 0 ≤ (u_14.1 6).toInt ∧ (u_14.1 6).toInt + 6 ≤ N := by omega
            refine wq_X7_goesSettle q104619 p104680 p104681 (fun r_31 u_32 q104682 q104683 q104684 q104685 => ?_)
            have := q104682.1
            have := q104682.2.1
            refine ⟨(nb_b (by omega)), ?_⟩
            have p104686 : ie [1, 2, 6, 7, 8, 9, 10, 11, 12, 13, 14] u_32.1 s0.1 := (ie_tr q104683 (by decide) (ie_tr q104620 (by decide) (ie_tr q104609 (by decide) (ie_tr q104598 (by decide) (ie_tr q104587 (by decide) (ie_tr q104576 (by decide) (ie_refl _ _)))))))
            have p104687 : (r_31).toInt = 0 ∨ (r_31).toInt = 1 := by omega
            have p104688 : (s0.1 6).toInt ≤ (u_32.1 6).toInt ∧ (u_32.1 6).toInt ≤ N := by omega
            have : (u_32.1 14).toInt = (u_14.1 14).toInt := ie_i q104683 14 (by decide)
            have : (u_14.1 14).toInt = (u_11.1 14).toInt := ie_i q104620 14 (by decide)
            have : (u_11.1 14).toInt = (u_8.1 14).toInt := ie_i q104609 14 (by decide)
            have : (u_8.1 14).toInt = (u_5.1 14).toInt := ie_i q104598 14 (by decide)
            have : (u_5.1 14).toInt = (u_2.1 14).toInt := ie_i q104587 14 (by decide)
            have : (u_2.1 14).toInt = (s0.1 14).toInt := ie_i q104576 14 (by decide)
            have p104689 : (r_31).toInt = 0 ∨ (u_32.1 14).toInt = (s0.1 14).toInt := by omega
            exact k _ _ q104682 p104686 p104687 p104688 p104689
        · replace c104616 := q_neq c104616
          rw [li_0] at c104616
          have p104690 : 0 < D := by omega
          have p104691 : 0 ≤ (u_11.1 6).toInt ∧ (u_11.1 6).toInt + 4 ≤ N := by omega
          refine wq_X7_goesWait q104608 p104690 p104691 (fun r_34 u_35 q104692 q104693 q104694 q104695 => ?_)
          have := q104692.1
          have := q104692.2.1
          refine ⟨(nb_b (by omega)), ?_⟩
          have p104696 : ie [1, 2, 6, 7, 8, 9, 10, 11, 12, 13, 14] u_35.1 s0.1 := (ie_tr q104693 (by decide) (ie_tr q104609 (by decide) (ie_tr q104598 (by decide) (ie_tr q104587 (by decide) (ie_tr q104576 (by decide) (ie_refl _ _))))))
          have p104697 : (r_34).toInt = 0 ∨ (r_34).toInt = 1 := by omega
          have p104698 : (s0.1 6).toInt ≤ (u_35.1 6).toInt ∧ (u_35.1 6).toInt ≤ N := by omega
          have : (u_35.1 14).toInt = (u_11.1 14).toInt := ie_i q104693 14 (by decide)
          have : (u_11.1 14).toInt = (u_8.1 14).toInt := ie_i q104609 14 (by decide)
          have : (u_8.1 14).toInt = (u_5.1 14).toInt := ie_i q104598 14 (by decide)
          have : (u_5.1 14).toInt = (u_2.1 14).toInt := ie_i q104587 14 (by decide)
          have : (u_2.1 14).toInt = (s0.1 14).toInt := ie_i q104576 14 (by decide)
          have p104699 : (r_34).toInt = 0 ∨ (u_35.1 14).toInt = (s0.1 14).toInt := by omega
          exact k _ _ q104692 p104696 p104697 p104698 p104699
      · replace c104605 := q_neq c104605
        rw [li_0] at c104605
        have p104700 : 0 < D := by omega
        have p104701 : 0 ≤ (u_8.1 6).toInt ∧ (u_8.1 6).toInt + 4 ≤ N := by omega
        refine wq_X7_goesHome q104597 p104700 p104701 (fun r_37 u_38 q104702 q104703 q104704 q104705 => ?_)
        have := q104702.1
        have := q104702.2.1
        refine ⟨(nb_b (by omega)), ?_⟩
        have p104706 : ie [1, 2, 6, 7, 8, 9, 10, 11, 12, 13, 14] u_38.1 s0.1 := (ie_tr q104703 (by decide) (ie_tr q104598 (by decide) (ie_tr q104587 (by decide) (ie_tr q104576 (by decide) (ie_refl _ _)))))
        have p104707 : (r_37).toInt = 0 ∨ (r_37).toInt = 1 := by omega
        have p104708 : (s0.1 6).toInt ≤ (u_38.1 6).toInt ∧ (u_38.1 6).toInt ≤ N := by omega
        have : (u_38.1 14).toInt = (u_8.1 14).toInt := ie_i q104703 14 (by decide)
        have : (u_8.1 14).toInt = (u_5.1 14).toInt := ie_i q104598 14 (by decide)
        have : (u_5.1 14).toInt = (u_2.1 14).toInt := ie_i q104587 14 (by decide)
        have : (u_2.1 14).toInt = (s0.1 14).toInt := ie_i q104576 14 (by decide)
        have p104709 : (r_37).toInt = 0 ∨ (u_38.1 14).toInt = (s0.1 14).toInt := by omega
        exact k _ _ q104702 p104706 p104707 p104708 p104709
    · replace c104594 := q_neq c104594
      rw [li_0] at c104594
      have p104710 : 0 < D := by omega
      have p104711 : 0 ≤ (u_5.1 6).toInt ∧ (u_5.1 6).toInt + 6 ≤ N := by omega
      refine wq_X7_goesScroll q104586 p104710 p104711 (fun r_40 u_41 q104712 q104713 q104714 q104715 => ?_)
      have := q104712.1
      have := q104712.2.1
      refine ⟨(nb_b (by omega)), ?_⟩
      have p104716 : ie [1, 2, 6, 7, 8, 9, 10, 11, 12, 13, 14] u_41.1 s0.1 := (ie_tr q104713 (by decide) (ie_tr q104587 (by decide) (ie_tr q104576 (by decide) (ie_refl _ _))))
      have p104717 : (r_40).toInt = 0 ∨ (r_40).toInt = 1 := by omega
      have p104718 : (s0.1 6).toInt ≤ (u_41.1 6).toInt ∧ (u_41.1 6).toInt ≤ N := by omega
      have : (u_41.1 14).toInt = (u_5.1 14).toInt := ie_i q104713 14 (by decide)
      have : (u_5.1 14).toInt = (u_2.1 14).toInt := ie_i q104587 14 (by decide)
      have : (u_2.1 14).toInt = (s0.1 14).toInt := ie_i q104576 14 (by decide)
      have p104719 : (r_40).toInt = 0 ∨ (u_41.1 14).toInt = (s0.1 14).toInt := by omega
      exact k _ _ q104712 p104716 p104717 p104718 p104719
  · replace c104583 := q_neq c104583
    rw [li_0] at c104583
    have p104720 : 0 < D := by omega
    have p104721 : 0 ≤ (u_2.1 6).toInt ∧ (u_2.1 6).toInt + 3 ≤ N := by omega
    refine wq_X7_goesRow q104575 p104720 p104721 (fun r_43 u_44 q104722 q104723 q104724 q104725 => ?_)
    have := q104722.1
    have := q104722.2.1
    refine ⟨(nb_b (by omega)), ?_⟩
    have p104726 : ie [1, 2, 6, 7, 8, 9, 10, 11, 12, 13, 14] u_44.1 s0.1 := (ie_tr q104723 (by decide) (ie_tr q104576 (by decide) (ie_refl _ _)))
    have p104727 : (r_43).toInt = 0 ∨ (r_43).toInt = 1 := by omega
    have p104728 : (s0.1 6).toInt ≤ (u_44.1 6).toInt ∧ (u_44.1 6).toInt ≤ N := by omega
    have : (u_44.1 14).toInt = (u_2.1 14).toInt := ie_i q104723 14 (by decide)
    have : (u_2.1 14).toInt = (s0.1 14).toInt := ie_i q104576 14 (by decide)
    have p104729 : (r_43).toInt = 0 ∨ (u_44.1 14).toInt = (s0.1 14).toInt := by omega
    exact k _ _ q104722 p104726 p104727 p104728 p104729
theorem wq_X7_goesAll_3_L10 {post : Int32 → Md → Prop} {e27 : Md → Int32 → Prop} {e29 : Md → Int32 → Prop} {D N R W G : Int} {A : Nat → Int32} (h104730 : 0 < D) (ke27 : ∀ (t0 : Md) (z1 : Int32), mb (N) (R) (W) (D) t0 → ie [1, 2, 6, 7, 8, 9, 10, 11, 12, 13, 14] t0.1 A → G ≤ (t0.1 6).toInt ∧ (t0.1 6).toInt ≤ N → e27 t0 z1) (ke29 : ∀ (t0 : Md) (z1 : Int32), mb (N) (R) (W) (D) t0 → ie [1, 2, 6, 7, 8, 9, 10, 11, 12, 13, 14] t0.1 A → (t0.1 14).toInt = 1 → G ≤ (t0.1 6).toInt ∧ (t0.1 6).toInt ≤ N → e29 t0 z1) : ∀ (n : Nat) (t0 : Md) (z1 : Int32), mb (N) (R) (W) (D) t0 → ie [1, 2, 6, 7, 8, 9, 10, 11, 12, 13, 14] t0.1 A → (t0.1 14).toInt = 1 → 0 ≤ G ∧ G ≤ (t0.1 6).toInt ∧ (t0.1 6).toInt ≤ N → N - (t0.1 6).toInt < (n : Int) → wp_X7_goesAll_3_L10 post e27 e29 n t0 z1 := by
  intro n
  induction n with
  | zero =>
    intro t0 z1 i104731 i104732 i104733 i104734 i104735
    have := i104731.1
    have := i104731.2.1
    have := i104731.2.2.1
    have := i104731.2.2.2.1
    exfalso
    omega
  | succ n ih =>
    intro t0 z1 i104731 i104732 i104733 i104734 i104735
    unfold wp_X7_goesAll_3_L10
    have := i104731.1
    have := i104731.2.1
    have := i104731.2.2.1
    have := i104731.2.2.2.1
    have p104736 : 0 ≤ (t0.1 6).toInt ∧ (t0.1 6).toInt ≤ N := by omega
    have p104737 : ¬ ((59 : Int32)).toInt = -1 := by (have := li_59; omega)
    refine wq_X7_takesByte i104731 p104736 p104737 (fun r_4 u_5 q104738 q104739 q104740 q104741 q104742 q104743 => ?_)
    have := q104738.1
    have := q104738.2.1
    refine ⟨fun c104744 => ?_, fun c104745 => ?_⟩
    · replace c104744 := q_eq c104744
      rw [li_0] at c104744
      have p104746 : ie [1, 2, 6, 7, 8, 9, 10, 11, 12, 13, 14] u_5.1 A := (ie_tr q104739 (by decide) (ie_tr i104732 (by decide) (ie_refl _ _)))
      have : (u_5.1 14).toInt = (t0.1 14).toInt := ie_i q104739 14 (by decide)
      have p104747 : (u_5.1 14).toInt = 1 := by omega
      have p104748 : G ≤ (u_5.1 6).toInt ∧ (u_5.1 6).toInt ≤ N := by omega
      exact ke29 _ _ q104738 p104746 p104747 p104748
    · replace c104745 := q_neq c104745
      rw [li_0] at c104745
      have p104749 : 0 < D := by omega
      have p104750 : 0 ≤ (u_5.1 6).toInt ∧ (u_5.1 6).toInt ≤ N := by omega
      have : (u_5.1 14).toInt = (t0.1 14).toInt := ie_i q104739 14 (by decide)
      have p104751 : (u_5.1 14).toInt = 1 := by omega
      refine wq_X7_goesOne_3 q104738 p104749 p104750 p104751 (fun r_7 u_8 q104752 q104753 q104754 q104755 q104756 => ?_)
      have := q104752.1
      have := q104752.2.1
      refine ⟨fun c104757 => ?_, fun c104758 => ?_⟩
      · replace c104757 := q_neq c104757
        rw [li_0] at c104757
        have p104759 : ie [1, 2, 6, 7, 8, 9, 10, 11, 12, 13, 14] u_8.1 A := (ie_tr q104753 (by decide) (ie_tr q104739 (by decide) (ie_tr i104732 (by decide) (ie_refl _ _))))
        have p104760 : (u_8.1 14).toInt = 1 := by omega
        have p104761 : 0 ≤ G ∧ G ≤ (u_8.1 6).toInt ∧ (u_8.1 6).toInt ≤ N := by omega
        have p104762 : N - (u_8.1 6).toInt < ((n : Nat) : Int) := by (omega)
        exact ih _ _ q104752 p104759 p104760 p104761 p104762
      · replace c104758 := q_eq c104758
        rw [li_0] at c104758
        have p104763 : ie [1, 2, 6, 7, 8, 9, 10, 11, 12, 13, 14] u_8.1 A := (ie_tr q104753 (by decide) (ie_tr q104739 (by decide) (ie_tr i104732 (by decide) (ie_refl _ _))))
        have p104764 : G ≤ (u_8.1 6).toInt ∧ (u_8.1 6).toInt ≤ N := by omega
        exact ke27 _ _ q104752 p104763 p104764
theorem wq_X7_goesAll_3 {post : Int32 → Md → Prop} {s0 : Md} {x1 : Int32} {N R W D : Int} (h104765 : mb (N) (R) (W) (D) s0) (h104766 : 0 < D) (h104767 : 0 ≤ (s0.1 6).toInt ∧ (s0.1 6).toInt ≤ N) (h104768 : (s0.1 14).toInt = 1) (k : ∀ (r : Int32) (u : Md), mb (N) (R) (W) (D) u → ie [1, 2, 6, 7, 8, 9, 10, 11, 12, 13, 14] u.1 s0.1 → (r).toInt = 0 ∨ (r).toInt = 1 → (s0.1 6).toInt ≤ (u.1 6).toInt ∧ (u.1 6).toInt ≤ N → (r).toInt = 0 ∨ (u.1 14).toInt = (s0.1 14).toInt → post r u) : wp_X7_goesAll_3 post s0 x1 := by
  unfold wp_X7_goesAll_3
  have := h104765.1
  have := h104765.2.1
  have := h104765.2.2.1
  have := h104765.2.2.2.1
  have p104769 : 0 < D := by omega
  have p104770 : 0 ≤ (s0.1 6).toInt ∧ (s0.1 6).toInt ≤ N := by omega
  have p104771 : (s0.1 14).toInt = 1 := by omega
  refine wq_X7_goesOne_3 h104765 p104769 p104770 p104771 (fun r_1 u_2 q104772 q104773 q104774 q104775 q104776 => ?_)
  have := q104772.1
  have := q104772.2.1
  refine ⟨fun c104777 => ?_, fun c104778 => ?_⟩
  · replace c104777 := q_neq c104777
    rw [li_0] at c104777
    have p104779 : 0 < D := by omega
    have p104780 : ie [1, 2, 6, 7, 8, 9, 10, 11, 12, 13, 14] u_2.1 u_2.1 := (ie_refl _ _)
    have p104781 : (u_2.1 14).toInt = 1 := by omega
    have p104782 : 0 ≤ ((u_2.1 6).toInt) ∧ ((u_2.1 6).toInt) ≤ (u_2.1 6).toInt ∧ (u_2.1 6).toInt ≤ N := by omega
    obtain ⟨f104783, g104784⟩ := fu_e 500
    have p104785 : N - (u_2.1 6).toInt < (f104783 : Int) := by (omega)
    refine ⟨f104783, wq_X7_goesAll_3_L10 p104779 (fun t0 z1 q104786 q104787 q104788 => ?_) (fun t0 z1 q104789 q104790 q104791 q104792 => ?_) f104783 _ _ q104772 p104780 p104781 p104782 p104785⟩
    · have := q104786.1
      have := q104786.2.1
      have p104793 : ie [1, 2, 6, 7, 8, 9, 10, 11, 12, 13, 14] t0.1 s0.1 := (ie_tr q104787 (by decide) (ie_tr q104773 (by decide) (ie_refl _ _)))
      have p104794 : (0 : Int32).toInt = 0 ∨ (0 : Int32).toInt = 1 := by (have := li_0; omega)
      have p104795 : (s0.1 6).toInt ≤ (t0.1 6).toInt ∧ (t0.1 6).toInt ≤ N := by omega
      have p104796 : (0 : Int32).toInt = 0 ∨ (t0.1 14).toInt = (s0.1 14).toInt := by (have := li_0; omega)
      exact k _ _ q104786 p104793 p104794 p104795 p104796
    · have := q104789.1
      have := q104789.2.1
      have p104797 : ie [1, 2, 6, 7, 8, 9, 10, 11, 12, 13, 14] t0.1 s0.1 := (ie_tr q104790 (by decide) (ie_tr q104773 (by decide) (ie_refl _ _)))
      have p104798 : (1 : Int32).toInt = 0 ∨ (1 : Int32).toInt = 1 := by (have := li_1; omega)
      have p104799 : (s0.1 6).toInt ≤ (t0.1 6).toInt ∧ (t0.1 6).toInt ≤ N := by omega
      have p104800 : (1 : Int32).toInt = 0 ∨ (t0.1 14).toInt = (s0.1 14).toInt := by (have := li_1; omega)
      exact k _ _ q104789 p104797 p104798 p104799 p104800
  · replace c104778 := q_eq c104778
    rw [li_0] at c104778
    have p104801 : ie [1, 2, 6, 7, 8, 9, 10, 11, 12, 13, 14] u_2.1 s0.1 := (ie_tr q104773 (by decide) (ie_refl _ _))
    have p104802 : (0 : Int32).toInt = 0 ∨ (0 : Int32).toInt = 1 := by (have := li_0; omega)
    have p104803 : (s0.1 6).toInt ≤ (u_2.1 6).toInt ∧ (u_2.1 6).toInt ≤ N := by omega
    have p104804 : (0 : Int32).toInt = 0 ∨ (u_2.1 14).toInt = (s0.1 14).toInt := by (have := li_0; omega)
    exact k _ _ q104772 p104801 p104802 p104803 p104804
theorem wq_X7_goesTimes_4_L90 {post : Int32 → Md → Prop} {e141 : Md → Int32 → Int32 → Int32 → Int32 → Int32 → Prop} {D N R W G : Int} {A : Nat → Int32} (h104805 : 0 < D) (ke141 : ∀ (t0 : Md) (z1 : Int32) (z2 : Int32) (z3 : Int32) (z4 : Int32) (z5 : Int32), mb (N) (R) (W) (D) t0 → ie [1, 2, 6, 7, 8, 9, 10, 11, 12, 13, 14] t0.1 A → (t0.1 14).toInt = 1 → (z4).toInt = G → 0 ≤ G ∧ G ≤ (t0.1 6).toInt ∧ (t0.1 6).toInt ≤ N → 0 ≤ (z5).toInt ∧ (z5).toInt ≤ 21 ∧ (z2).toInt ≤ 20 → e141 t0 z1 z2 z3 z4 z5) (k : ∀ (r : Int32) (u : Md), mb (N) (R) (W) (D) u → ie [1, 2, 6, 7, 8, 9, 10, 11, 12, 13, 14] u.1 A → (r).toInt = 0 → G ≤ (u.1 6).toInt ∧ (u.1 6).toInt ≤ N → post r u) : ∀ (n : Nat) (t0 : Md) (z1 : Int32) (z2 : Int32) (z3 : Int32) (z4 : Int32) (z5 : Int32), mb (N) (R) (W) (D) t0 → ie [1, 2, 6, 7, 8, 9, 10, 11, 12, 13, 14] t0.1 A → (t0.1 14).toInt = 1 → (z4).toInt = G → 0 ≤ G ∧ G ≤ (t0.1 6).toInt ∧ (t0.1 6).toInt ≤ N → 0 ≤ (z5).toInt ∧ (z5).toInt ≤ 21 ∧ (z2).toInt ≤ 20 → 21 - (z5).toInt < (n : Int) → wp_X7_goesTimes_4_L90 post e141 n t0 z1 z2 z3 z4 z5 := by
  intro n
  induction n with
  | zero =>
    intro t0 z1 z2 z3 z4 z5 i104806 i104807 i104808 i104809 i104810 i104811 i104812
    have := i104806.1
    have := i104806.2.1
    have := i104806.2.2.1
    have := i104806.2.2.2.1
    exfalso
    omega
  | succ n ih =>
    intro t0 z1 z2 z3 z4 z5 i104806 i104807 i104808 i104809 i104810 i104811 i104812
    unfold wp_X7_goesTimes_4_L90
    have := i104806.1
    have := i104806.2.1
    have := i104806.2.2.1
    have := i104806.2.2.2.1
    refine ⟨fun c104813 => ?_, fun c104814 => ?_⟩
    · replace c104813 := q_eq c104813
      rw [li_0] at c104813
      refine ⟨fun c104815 => ?_, fun c104816 => ?_⟩
      · replace c104815 := q_eq c104815
        rw [li_0] at c104815
        have : (t0.1 5).toInt = (A 5).toInt := ie_i i104807 5 (by decide)
        have p104817 : (t0.1 5).toInt = N := by omega
        have : (t0.1 0).toInt = (A 0).toInt := ie_i i104807 0 (by decide)
        have p104818 : 0 ≤ (t0.1 0).toInt ∧ (t0.1 0).toInt ≤ 10 := by omega
        have p104819 : 0 ≤ N ∧ N ≤ 400 := by omega
        have p104820 : 0 ≤ R ∧ R ≤ 6 ∧ 0 ≤ W ∧ W ≤ 10 ∧ 0 ≤ R * W ∧ R * W ≤ 40 ∧ 0 ≤ D ∧ D ≤ 4 ∧ (D ≤ 0 ∨ 1 ≤ R) ∧ (1 ≤ R ∨ R * W = 0) := by omega
        have B104821 : mb (N) (R) (W) (D) ((va_up t0.1 6 z4), t0.2.1, t0.2.2.1, t0.2.2.2) := ⟨p104817, p104818, p104819, p104820, i104806.2.2.2.2.1, i104806.2.2.2.2.2.1, i104806.2.2.2.2.2.2.1, i104806.2.2.2.2.2.2.2⟩
        have p104822 : 0 < D := by omega
        have p104823 : 0 ≤ (z4).toInt ∧ (z4).toInt ≤ N := by omega
        have p104824 : (t0.1 14).toInt = 1 := by omega
        refine wq_X7_goesAll_3 B104821 p104822 p104823 p104824 (fun r_14 u_15 q104825 q104826 q104827 q104828 q104829 => ?_)
        have := q104825.1
        have := q104825.2.1
        replace q104827 : (r_14).toInt = 0 ∨ (r_14).toInt = 1 := q104827
        replace q104828 : (z4).toInt ≤ (u_15.1 6).toInt ∧ (u_15.1 6).toInt ≤ N := q104828
        replace q104829 : (r_14).toInt = 0 ∨ (u_15.1 14).toInt = (t0.1 14).toInt := q104829
        refine ⟨fun c104830 => ?_, fun c104831 => ?_⟩
        · replace c104830 := q_neq c104830
          rw [li_0] at c104830
          have p104832 : ie [1, 2, 6, 7, 8, 9, 10, 11, 12, 13, 14] u_15.1 A := (ie_tr q104826 (by decide) (ie_up (ie_tr i104807 (by decide) (ie_refl _ _)) (by decide)))
          have p104833 : (u_15.1 14).toInt = 1 := by omega
          have p104834 : (z4).toInt = G := by omega
          have p104835 : 0 ≤ G ∧ G ≤ (u_15.1 6).toInt ∧ (u_15.1 6).toInt ≤ N := by omega
          have e104836 := tq_addr li_1 z5
          try rw [Int.emod_eq_of_lt (show 0 ≤ (z5).toInt + 1 + 2147483648 by omega) (show (z5).toInt + 1 + 2147483648 < 4294967296 by omega)] at e104836
          have p104837 : 0 ≤ (z5 + 1).toInt ∧ (z5 + 1).toInt ≤ 21 ∧ (z2).toInt ≤ 20 := by omega
          have p104838 : 21 - (z5 + 1).toInt < ((n : Nat) : Int) := by (omega)
          exact ih _ _ _ _ _ _ q104825 p104832 p104833 p104834 p104835 p104837 p104838
        · replace c104831 := q_eq c104831
          rw [li_0] at c104831
          have p104839 : ie [1, 2, 6, 7, 8, 9, 10, 11, 12, 13, 14] u_15.1 A := (ie_tr q104826 (by decide) (ie_up (ie_tr i104807 (by decide) (ie_refl _ _)) (by decide)))
          have p104840 : (0 : Int32).toInt = 0 := by (have := li_0; omega)
          have p104841 : G ≤ (u_15.1 6).toInt ∧ (u_15.1 6).toInt ≤ N := by omega
          exact k _ _ q104825 p104839 p104840 p104841
      · replace c104816 := q_neq c104816
        rw [li_0] at c104816
        refine ⟨fun c104842 => ?_, fun c104843 => ?_⟩
        · replace c104842 := q_le c104842
          have : (t0.1 5).toInt = (A 5).toInt := ie_i i104807 5 (by decide)
          have p104844 : (t0.1 5).toInt = N := by omega
          have : (t0.1 0).toInt = (A 0).toInt := ie_i i104807 0 (by decide)
          have p104845 : 0 ≤ (t0.1 0).toInt ∧ (t0.1 0).toInt ≤ 10 := by omega
          have p104846 : 0 ≤ N ∧ N ≤ 400 := by omega
          have p104847 : 0 ≤ R ∧ R ≤ 6 ∧ 0 ≤ W ∧ W ≤ 10 ∧ 0 ≤ R * W ∧ R * W ≤ 40 ∧ 0 ≤ D ∧ D ≤ 4 ∧ (D ≤ 0 ∨ 1 ≤ R) ∧ (1 ≤ R ∨ R * W = 0) := by omega
          have B104848 : mb (N) (R) (W) (D) ((va_up t0.1 6 z4), t0.2.1, t0.2.2.1, t0.2.2.2) := ⟨p104844, p104845, p104846, p104847, i104806.2.2.2.2.1, i104806.2.2.2.2.2.1, i104806.2.2.2.2.2.2.1, i104806.2.2.2.2.2.2.2⟩
          have p104849 : 0 < D := by omega
          have p104850 : 0 ≤ (z4).toInt ∧ (z4).toInt ≤ N := by omega
          have p104851 : (t0.1 14).toInt = 1 := by omega
          refine wq_X7_goesAll_3 B104848 p104849 p104850 p104851 (fun r_18 u_19 q104852 q104853 q104854 q104855 q104856 => ?_)
          have := q104852.1
          have := q104852.2.1
          replace q104854 : (r_18).toInt = 0 ∨ (r_18).toInt = 1 := q104854
          replace q104855 : (z4).toInt ≤ (u_19.1 6).toInt ∧ (u_19.1 6).toInt ≤ N := q104855
          replace q104856 : (r_18).toInt = 0 ∨ (u_19.1 14).toInt = (t0.1 14).toInt := q104856
          refine ⟨fun c104857 => ?_, fun c104858 => ?_⟩
          · replace c104857 := q_neq c104857
            rw [li_0] at c104857
            have p104859 : ie [1, 2, 6, 7, 8, 9, 10, 11, 12, 13, 14] u_19.1 A := (ie_tr q104853 (by decide) (ie_up (ie_tr i104807 (by decide) (ie_refl _ _)) (by decide)))
            have p104860 : (u_19.1 14).toInt = 1 := by omega
            have p104861 : (z4).toInt = G := by omega
            have p104862 : 0 ≤ G ∧ G ≤ (u_19.1 6).toInt ∧ (u_19.1 6).toInt ≤ N := by omega
            have e104863 := tq_addr li_1 z5
            try rw [Int.emod_eq_of_lt (show 0 ≤ (z5).toInt + 1 + 2147483648 by omega) (show (z5).toInt + 1 + 2147483648 < 4294967296 by omega)] at e104863
            have p104864 : 0 ≤ (z5 + 1).toInt ∧ (z5 + 1).toInt ≤ 21 ∧ (z2).toInt ≤ 20 := by omega
            have p104865 : 21 - (z5 + 1).toInt < ((n : Nat) : Int) := by (omega)
            exact ih _ _ _ _ _ _ q104852 p104859 p104860 p104861 p104862 p104864 p104865
          · replace c104858 := q_eq c104858
            rw [li_0] at c104858
            have p104866 : ie [1, 2, 6, 7, 8, 9, 10, 11, 12, 13, 14] u_19.1 A := (ie_tr q104853 (by decide) (ie_up (ie_tr i104807 (by decide) (ie_refl _ _)) (by decide)))
            have p104867 : (0 : Int32).toInt = 0 := by (have := li_0; omega)
            have p104868 : G ≤ (u_19.1 6).toInt ∧ (u_19.1 6).toInt ≤ N := by omega
            exact k _ _ q104852 p104866 p104867 p104868
        · replace c104843 := q_nle c104843
          have : (t0.1 5).toInt = (A 5).toInt := ie_i i104807 5 (by decide)
          have p104869 : (t0.1 5).toInt = N := by omega
          have : (t0.1 0).toInt = (A 0).toInt := ie_i i104807 0 (by decide)
          have p104870 : 0 ≤ (t0.1 0).toInt ∧ (t0.1 0).toInt ≤ 10 := by omega
          have p104871 : 0 ≤ N ∧ N ≤ 400 := by omega
          have p104872 : 0 ≤ R ∧ R ≤ 6 ∧ 0 ≤ W ∧ W ≤ 10 ∧ 0 ≤ R * W ∧ R * W ≤ 40 ∧ 0 ≤ D ∧ D ≤ 4 ∧ (D ≤ 0 ∨ 1 ≤ R) ∧ (1 ≤ R ∨ R * W = 0) := by omega
          have B104873 : mb (N) (R) (W) (D) ((va_up t0.1 6 z4), t0.2.1, t0.2.2.1, t0.2.2.2) := ⟨p104869, p104870, p104871, p104872, i104806.2.2.2.2.1, i104806.2.2.2.2.2.1, i104806.2.2.2.2.2.2.1, i104806.2.2.2.2.2.2.2⟩
          have p104874 : 0 < D := by omega
          have p104875 : 0 ≤ (z4).toInt ∧ (z4).toInt ≤ N := by omega
          have p104876 : (t0.1 14).toInt = 1 := by omega
          refine wq_X7_goesAll_3 B104873 p104874 p104875 p104876 (fun r_21 u_22 q104877 q104878 q104879 q104880 q104881 => ?_)
          have := q104877.1
          have := q104877.2.1
          replace q104879 : (r_21).toInt = 0 ∨ (r_21).toInt = 1 := q104879
          replace q104880 : (z4).toInt ≤ (u_22.1 6).toInt ∧ (u_22.1 6).toInt ≤ N := q104880
          replace q104881 : (r_21).toInt = 0 ∨ (u_22.1 14).toInt = (t0.1 14).toInt := q104881
          refine ⟨fun c104882 => ?_, fun c104883 => ?_⟩
          · replace c104882 := q_neq c104882
            rw [li_0] at c104882
            have p104884 : ie [1, 2, 6, 7, 8, 9, 10, 11, 12, 13, 14] u_22.1 A := (ie_tr q104878 (by decide) (ie_up (ie_tr i104807 (by decide) (ie_refl _ _)) (by decide)))
            have p104885 : (u_22.1 14).toInt = 1 := by omega
            have p104886 : (z4).toInt = G := by omega
            have p104887 : 0 ≤ G ∧ G ≤ (u_22.1 6).toInt ∧ (u_22.1 6).toInt ≤ N := by omega
            have e104888 := tq_addr li_1 z5
            try rw [Int.emod_eq_of_lt (show 0 ≤ (z5).toInt + 1 + 2147483648 by omega) (show (z5).toInt + 1 + 2147483648 < 4294967296 by omega)] at e104888
            have p104889 : 0 ≤ (z5 + 1).toInt ∧ (z5 + 1).toInt ≤ 21 ∧ (z2).toInt ≤ 20 := by omega
            have p104890 : 21 - (z5 + 1).toInt < ((n : Nat) : Int) := by (omega)
            exact ih _ _ _ _ _ _ q104877 p104884 p104885 p104886 p104887 p104889 p104890
          · replace c104883 := q_eq c104883
            rw [li_0] at c104883
            have p104891 : ie [1, 2, 6, 7, 8, 9, 10, 11, 12, 13, 14] u_22.1 A := (ie_tr q104878 (by decide) (ie_up (ie_tr i104807 (by decide) (ie_refl _ _)) (by decide)))
            have p104892 : (0 : Int32).toInt = 0 := by (have := li_0; omega)
            have p104893 : G ≤ (u_22.1 6).toInt ∧ (u_22.1 6).toInt ≤ N := by omega
            exact k _ _ q104877 p104891 p104892 p104893
    · replace c104814 := q_neq c104814
      rw [li_0] at c104814
      refine ⟨fun c104894 => ?_, fun c104895 => ?_⟩
      · replace c104894 := q_le c104894
        have p104896 : ie [1, 2, 6, 7, 8, 9, 10, 11, 12, 13, 14] t0.1 A := (ie_tr i104807 (by decide) (ie_refl _ _))
        have p104897 : (t0.1 14).toInt = 1 := by omega
        have p104898 : (z4).toInt = G := by omega
        have p104899 : 0 ≤ G ∧ G ≤ (t0.1 6).toInt ∧ (t0.1 6).toInt ≤ N := by omega
        have p104900 : 0 ≤ (z5).toInt ∧ (z5).toInt ≤ 21 ∧ (z2).toInt ≤ 20 := by omega
        exact ke141 _ _ _ _ _ _ i104806 p104896 p104897 p104898 p104899 p104900
      · replace c104895 := q_nle c104895
        refine ⟨fun c104901 => ?_, fun c104902 => ?_⟩
        · replace c104901 := q_eq c104901
          rw [li_0] at c104901
          have p104903 : ie [1, 2, 6, 7, 8, 9, 10, 11, 12, 13, 14] t0.1 A := (ie_tr i104807 (by decide) (ie_refl _ _))
          have p104904 : (t0.1 14).toInt = 1 := by omega
          have p104905 : (z4).toInt = G := by omega
          have p104906 : 0 ≤ G ∧ G ≤ (t0.1 6).toInt ∧ (t0.1 6).toInt ≤ N := by omega
          have p104907 : 0 ≤ (z5).toInt ∧ (z5).toInt ≤ 21 ∧ (z2).toInt ≤ 20 := by omega
          exact ke141 _ _ _ _ _ _ i104806 p104903 p104904 p104905 p104906 p104907
        · replace c104902 := q_neq c104902
          rw [li_0] at c104902
          refine ⟨fun c104908 => ?_, fun c104909 => ?_⟩
          · replace c104908 := q_eq c104908
            rw [li_0] at c104908
            have : (t0.1 5).toInt = (A 5).toInt := ie_i i104807 5 (by decide)
            have p104910 : (t0.1 5).toInt = N := by omega
            have : (t0.1 0).toInt = (A 0).toInt := ie_i i104807 0 (by decide)
            have p104911 : 0 ≤ (t0.1 0).toInt ∧ (t0.1 0).toInt ≤ 10 := by omega
            have p104912 : 0 ≤ N ∧ N ≤ 400 := by omega
            have p104913 : 0 ≤ R ∧ R ≤ 6 ∧ 0 ≤ W ∧ W ≤ 10 ∧ 0 ≤ R * W ∧ R * W ≤ 40 ∧ 0 ≤ D ∧ D ≤ 4 ∧ (D ≤ 0 ∨ 1 ≤ R) ∧ (1 ≤ R ∨ R * W = 0) := by omega
            have B104914 : mb (N) (R) (W) (D) ((va_up t0.1 6 z4), t0.2.1, t0.2.2.1, t0.2.2.2) := ⟨p104910, p104911, p104912, p104913, i104806.2.2.2.2.1, i104806.2.2.2.2.2.1, i104806.2.2.2.2.2.2.1, i104806.2.2.2.2.2.2.2⟩
            have p104915 : 0 < D := by omega
            have p104916 : 0 ≤ (z4).toInt ∧ (z4).toInt ≤ N := by omega
            have p104917 : (t0.1 14).toInt = 1 := by omega
            refine wq_X7_goesAll_3 B104914 p104915 p104916 p104917 (fun r_27 u_28 q104918 q104919 q104920 q104921 q104922 => ?_)
            have := q104918.1
            have := q104918.2.1
            replace q104920 : (r_27).toInt = 0 ∨ (r_27).toInt = 1 := q104920
            replace q104921 : (z4).toInt ≤ (u_28.1 6).toInt ∧ (u_28.1 6).toInt ≤ N := q104921
            replace q104922 : (r_27).toInt = 0 ∨ (u_28.1 14).toInt = (t0.1 14).toInt := q104922
            refine ⟨fun c104923 => ?_, fun c104924 => ?_⟩
            · replace c104923 := q_neq c104923
              rw [li_0] at c104923
              have p104925 : ie [1, 2, 6, 7, 8, 9, 10, 11, 12, 13, 14] u_28.1 A := (ie_tr q104919 (by decide) (ie_up (ie_tr i104807 (by decide) (ie_refl _ _)) (by decide)))
              have p104926 : (u_28.1 14).toInt = 1 := by omega
              have p104927 : (z4).toInt = G := by omega
              have p104928 : 0 ≤ G ∧ G ≤ (u_28.1 6).toInt ∧ (u_28.1 6).toInt ≤ N := by omega
              have e104929 := tq_addr li_1 z5
              try rw [Int.emod_eq_of_lt (show 0 ≤ (z5).toInt + 1 + 2147483648 by omega) (show (z5).toInt + 1 + 2147483648 < 4294967296 by omega)] at e104929
              have p104930 : 0 ≤ (z5 + 1).toInt ∧ (z5 + 1).toInt ≤ 21 ∧ (z2).toInt ≤ 20 := by omega
              have p104931 : 21 - (z5 + 1).toInt < ((n : Nat) : Int) := by (omega)
              exact ih _ _ _ _ _ _ q104918 p104925 p104926 p104927 p104928 p104930 p104931
            · replace c104924 := q_eq c104924
              rw [li_0] at c104924
              have p104932 : ie [1, 2, 6, 7, 8, 9, 10, 11, 12, 13, 14] u_28.1 A := (ie_tr q104919 (by decide) (ie_up (ie_tr i104807 (by decide) (ie_refl _ _)) (by decide)))
              have p104933 : (0 : Int32).toInt = 0 := by (have := li_0; omega)
              have p104934 : G ≤ (u_28.1 6).toInt ∧ (u_28.1 6).toInt ≤ N := by omega
              exact k _ _ q104918 p104932 p104933 p104934
          · replace c104909 := q_neq c104909
            rw [li_0] at c104909
            refine ⟨fun c104935 => ?_, fun c104936 => ?_⟩
            · replace c104935 := q_le c104935
              have : (t0.1 5).toInt = (A 5).toInt := ie_i i104807 5 (by decide)
              have p104937 : (t0.1 5).toInt = N := by omega
              have : (t0.1 0).toInt = (A 0).toInt := ie_i i104807 0 (by decide)
              have p104938 : 0 ≤ (t0.1 0).toInt ∧ (t0.1 0).toInt ≤ 10 := by omega
              have p104939 : 0 ≤ N ∧ N ≤ 400 := by omega
              have p104940 : 0 ≤ R ∧ R ≤ 6 ∧ 0 ≤ W ∧ W ≤ 10 ∧ 0 ≤ R * W ∧ R * W ≤ 40 ∧ 0 ≤ D ∧ D ≤ 4 ∧ (D ≤ 0 ∨ 1 ≤ R) ∧ (1 ≤ R ∨ R * W = 0) := by omega
              have B104941 : mb (N) (R) (W) (D) ((va_up t0.1 6 z4), t0.2.1, t0.2.2.1, t0.2.2.2) := ⟨p104937, p104938, p104939, p104940, i104806.2.2.2.2.1, i104806.2.2.2.2.2.1, i104806.2.2.2.2.2.2.1, i104806.2.2.2.2.2.2.2⟩
              have p104942 : 0 < D := by omega
              have p104943 : 0 ≤ (z4).toInt ∧ (z4).toInt ≤ N := by omega
              have p104944 : (t0.1 14).toInt = 1 := by omega
              refine wq_X7_goesAll_3 B104941 p104942 p104943 p104944 (fun r_31 u_32 q104945 q104946 q104947 q104948 q104949 => ?_)
              have := q104945.1
              have := q104945.2.1
              replace q104947 : (r_31).toInt = 0 ∨ (r_31).toInt = 1 := q104947
              replace q104948 : (z4).toInt ≤ (u_32.1 6).toInt ∧ (u_32.1 6).toInt ≤ N := q104948
              replace q104949 : (r_31).toInt = 0 ∨ (u_32.1 14).toInt = (t0.1 14).toInt := q104949
              refine ⟨fun c104950 => ?_, fun c104951 => ?_⟩
              · replace c104950 := q_neq c104950
                rw [li_0] at c104950
                have p104952 : ie [1, 2, 6, 7, 8, 9, 10, 11, 12, 13, 14] u_32.1 A := (ie_tr q104946 (by decide) (ie_up (ie_tr i104807 (by decide) (ie_refl _ _)) (by decide)))
                have p104953 : (u_32.1 14).toInt = 1 := by omega
                have p104954 : (z4).toInt = G := by omega
                have p104955 : 0 ≤ G ∧ G ≤ (u_32.1 6).toInt ∧ (u_32.1 6).toInt ≤ N := by omega
                have e104956 := tq_addr li_1 z5
                try rw [Int.emod_eq_of_lt (show 0 ≤ (z5).toInt + 1 + 2147483648 by omega) (show (z5).toInt + 1 + 2147483648 < 4294967296 by omega)] at e104956
                have p104957 : 0 ≤ (z5 + 1).toInt ∧ (z5 + 1).toInt ≤ 21 ∧ (z2).toInt ≤ 20 := by omega
                have p104958 : 21 - (z5 + 1).toInt < ((n : Nat) : Int) := by (omega)
                exact ih _ _ _ _ _ _ q104945 p104952 p104953 p104954 p104955 p104957 p104958
              · replace c104951 := q_eq c104951
                rw [li_0] at c104951
                have p104959 : ie [1, 2, 6, 7, 8, 9, 10, 11, 12, 13, 14] u_32.1 A := (ie_tr q104946 (by decide) (ie_up (ie_tr i104807 (by decide) (ie_refl _ _)) (by decide)))
                have p104960 : (0 : Int32).toInt = 0 := by (have := li_0; omega)
                have p104961 : G ≤ (u_32.1 6).toInt ∧ (u_32.1 6).toInt ≤ N := by omega
                exact k _ _ q104945 p104959 p104960 p104961
            · replace c104936 := q_nle c104936
              have : (t0.1 5).toInt = (A 5).toInt := ie_i i104807 5 (by decide)
              have p104962 : (t0.1 5).toInt = N := by omega
              have : (t0.1 0).toInt = (A 0).toInt := ie_i i104807 0 (by decide)
              have p104963 : 0 ≤ (t0.1 0).toInt ∧ (t0.1 0).toInt ≤ 10 := by omega
              have p104964 : 0 ≤ N ∧ N ≤ 400 := by omega
              have p104965 : 0 ≤ R ∧ R ≤ 6 ∧ 0 ≤ W ∧ W ≤ 10 ∧ 0 ≤ R * W ∧ R * W ≤ 40 ∧ 0 ≤ D ∧ D ≤ 4 ∧ (D ≤ 0 ∨ 1 ≤ R) ∧ (1 ≤ R ∨ R * W = 0) := by omega
              have B104966 : mb (N) (R) (W) (D) ((va_up t0.1 6 z4), t0.2.1, t0.2.2.1, t0.2.2.2) := ⟨p104962, p104963, p104964, p104965, i104806.2.2.2.2.1, i104806.2.2.2.2.2.1, i104806.2.2.2.2.2.2.1, i104806.2.2.2.2.2.2.2⟩
              have p104967 : 0 < D := by omega
              have p104968 : 0 ≤ (z4).toInt ∧ (z4).toInt ≤ N := by omega
              have p104969 : (t0.1 14).toInt = 1 := by omega
              refine wq_X7_goesAll_3 B104966 p104967 p104968 p104969 (fun r_34 u_35 q104970 q104971 q104972 q104973 q104974 => ?_)
              have := q104970.1
              have := q104970.2.1
              replace q104972 : (r_34).toInt = 0 ∨ (r_34).toInt = 1 := q104972
              replace q104973 : (z4).toInt ≤ (u_35.1 6).toInt ∧ (u_35.1 6).toInt ≤ N := q104973
              replace q104974 : (r_34).toInt = 0 ∨ (u_35.1 14).toInt = (t0.1 14).toInt := q104974
              refine ⟨fun c104975 => ?_, fun c104976 => ?_⟩
              · replace c104975 := q_neq c104975
                rw [li_0] at c104975
                have p104977 : ie [1, 2, 6, 7, 8, 9, 10, 11, 12, 13, 14] u_35.1 A := (ie_tr q104971 (by decide) (ie_up (ie_tr i104807 (by decide) (ie_refl _ _)) (by decide)))
                have p104978 : (u_35.1 14).toInt = 1 := by omega
                have p104979 : (z4).toInt = G := by omega
                have p104980 : 0 ≤ G ∧ G ≤ (u_35.1 6).toInt ∧ (u_35.1 6).toInt ≤ N := by omega
                have e104981 := tq_addr li_1 z5
                try rw [Int.emod_eq_of_lt (show 0 ≤ (z5).toInt + 1 + 2147483648 by omega) (show (z5).toInt + 1 + 2147483648 < 4294967296 by omega)] at e104981
                have p104982 : 0 ≤ (z5 + 1).toInt ∧ (z5 + 1).toInt ≤ 21 ∧ (z2).toInt ≤ 20 := by omega
                have p104983 : 21 - (z5 + 1).toInt < ((n : Nat) : Int) := by (omega)
                exact ih _ _ _ _ _ _ q104970 p104977 p104978 p104979 p104980 p104982 p104983
              · replace c104976 := q_eq c104976
                rw [li_0] at c104976
                have p104984 : ie [1, 2, 6, 7, 8, 9, 10, 11, 12, 13, 14] u_35.1 A := (ie_tr q104971 (by decide) (ie_up (ie_tr i104807 (by decide) (ie_refl _ _)) (by decide)))
                have p104985 : (0 : Int32).toInt = 0 := by (have := li_0; omega)
                have p104986 : G ≤ (u_35.1 6).toInt ∧ (u_35.1 6).toInt ≤ N := by omega
                exact k _ _ q104970 p104984 p104985 p104986
theorem wq_X7_goesTimes_4_L90b {post : Int32 → Md → Prop} {e141 : Md → Int32 → Int32 → Int32 → Int32 → Int32 → Prop} {D N R W G : Int} {A : Nat → Int32} (h104987 : 0 < D) (ke141 : ∀ (t0 : Md) (z1 : Int32) (z2 : Int32) (z3 : Int32) (z4 : Int32) (z5 : Int32), mb (N) (R) (W) (D) t0 → ie [1, 2, 6, 7, 8, 9, 10, 11, 12, 13, 14] t0.1 A → (t0.1 14).toInt = 1 → (z4).toInt = G → 0 ≤ G ∧ G ≤ (t0.1 6).toInt ∧ (t0.1 6).toInt ≤ N → 0 ≤ (z5).toInt ∧ (z5).toInt ≤ 21 ∧ (z2).toInt ≤ 20 → e141 t0 z1 z2 z3 z4 z5) (k : ∀ (r : Int32) (u : Md), mb (N) (R) (W) (D) u → ie [1, 2, 6, 7, 8, 9, 10, 11, 12, 13, 14] u.1 A → (r).toInt = 0 → G ≤ (u.1 6).toInt ∧ (u.1 6).toInt ≤ N → post r u) : ∀ (n : Nat) (t0 : Md) (z1 : Int32) (z2 : Int32) (z3 : Int32) (z4 : Int32) (z5 : Int32), mb (N) (R) (W) (D) t0 → ie [1, 2, 6, 7, 8, 9, 10, 11, 12, 13, 14] t0.1 A → (t0.1 14).toInt = 1 → (z4).toInt = G → 0 ≤ G ∧ G ≤ (t0.1 6).toInt ∧ (t0.1 6).toInt ≤ N → 0 ≤ (z5).toInt ∧ (z5).toInt ≤ 21 ∧ (z2).toInt ≤ 20 → 21 - (z5).toInt < (n : Int) → wp_X7_goesTimes_4_L90b post e141 n t0 z1 z2 z3 z4 z5 := by
  intro n
  induction n with
  | zero =>
    intro t0 z1 z2 z3 z4 z5 i104988 i104989 i104990 i104991 i104992 i104993 i104994
    have := i104988.1
    have := i104988.2.1
    have := i104988.2.2.1
    have := i104988.2.2.2.1
    exfalso
    omega
  | succ n ih =>
    intro t0 z1 z2 z3 z4 z5 i104988 i104989 i104990 i104991 i104992 i104993 i104994
    unfold wp_X7_goesTimes_4_L90b
    have := i104988.1
    have := i104988.2.1
    have := i104988.2.2.1
    have := i104988.2.2.2.1
    refine ⟨fun c104995 => ?_, fun c104996 => ?_⟩
    · replace c104995 := q_eq c104995
      rw [li_0] at c104995
      refine ⟨fun c104997 => ?_, fun c104998 => ?_⟩
      · replace c104997 := q_eq c104997
        rw [li_0] at c104997
        have : (t0.1 5).toInt = (A 5).toInt := ie_i i104989 5 (by decide)
        have p104999 : (t0.1 5).toInt = N := by omega
        have : (t0.1 0).toInt = (A 0).toInt := ie_i i104989 0 (by decide)
        have p105000 : 0 ≤ (t0.1 0).toInt ∧ (t0.1 0).toInt ≤ 10 := by omega
        have p105001 : 0 ≤ N ∧ N ≤ 400 := by omega
        have p105002 : 0 ≤ R ∧ R ≤ 6 ∧ 0 ≤ W ∧ W ≤ 10 ∧ 0 ≤ R * W ∧ R * W ≤ 40 ∧ 0 ≤ D ∧ D ≤ 4 ∧ (D ≤ 0 ∨ 1 ≤ R) ∧ (1 ≤ R ∨ R * W = 0) := by omega
        have B105003 : mb (N) (R) (W) (D) ((va_up t0.1 6 z4), t0.2.1, t0.2.2.1, t0.2.2.2) := ⟨p104999, p105000, p105001, p105002, i104988.2.2.2.2.1, i104988.2.2.2.2.2.1, i104988.2.2.2.2.2.2.1, i104988.2.2.2.2.2.2.2⟩
        have p105004 : 0 < D := by omega
        have p105005 : 0 ≤ (z4).toInt ∧ (z4).toInt ≤ N := by omega
        have p105006 : (t0.1 14).toInt = 1 := by omega
        refine wq_X7_goesAll_3 B105003 p105004 p105005 p105006 (fun r_48 u_49 q105007 q105008 q105009 q105010 q105011 => ?_)
        have := q105007.1
        have := q105007.2.1
        replace q105009 : (r_48).toInt = 0 ∨ (r_48).toInt = 1 := q105009
        replace q105010 : (z4).toInt ≤ (u_49.1 6).toInt ∧ (u_49.1 6).toInt ≤ N := q105010
        replace q105011 : (r_48).toInt = 0 ∨ (u_49.1 14).toInt = (t0.1 14).toInt := q105011
        refine ⟨fun c105012 => ?_, fun c105013 => ?_⟩
        · replace c105012 := q_neq c105012
          rw [li_0] at c105012
          have p105014 : ie [1, 2, 6, 7, 8, 9, 10, 11, 12, 13, 14] u_49.1 A := (ie_tr q105008 (by decide) (ie_up (ie_tr i104989 (by decide) (ie_refl _ _)) (by decide)))
          have p105015 : (u_49.1 14).toInt = 1 := by omega
          have p105016 : (z4).toInt = G := by omega
          have p105017 : 0 ≤ G ∧ G ≤ (u_49.1 6).toInt ∧ (u_49.1 6).toInt ≤ N := by omega
          have e105018 := tq_addr li_1 z5
          try rw [Int.emod_eq_of_lt (show 0 ≤ (z5).toInt + 1 + 2147483648 by omega) (show (z5).toInt + 1 + 2147483648 < 4294967296 by omega)] at e105018
          have p105019 : 0 ≤ (z5 + 1).toInt ∧ (z5 + 1).toInt ≤ 21 ∧ (z2).toInt ≤ 20 := by omega
          have p105020 : 21 - (z5 + 1).toInt < ((n : Nat) : Int) := by (omega)
          exact ih _ _ _ _ _ _ q105007 p105014 p105015 p105016 p105017 p105019 p105020
        · replace c105013 := q_eq c105013
          rw [li_0] at c105013
          have p105021 : ie [1, 2, 6, 7, 8, 9, 10, 11, 12, 13, 14] u_49.1 A := (ie_tr q105008 (by decide) (ie_up (ie_tr i104989 (by decide) (ie_refl _ _)) (by decide)))
          have p105022 : (0 : Int32).toInt = 0 := by (have := li_0; omega)
          have p105023 : G ≤ (u_49.1 6).toInt ∧ (u_49.1 6).toInt ≤ N := by omega
          exact k _ _ q105007 p105021 p105022 p105023
      · replace c104998 := q_neq c104998
        rw [li_0] at c104998
        refine ⟨fun c105024 => ?_, fun c105025 => ?_⟩
        · replace c105024 := q_le c105024
          have : (t0.1 5).toInt = (A 5).toInt := ie_i i104989 5 (by decide)
          have p105026 : (t0.1 5).toInt = N := by omega
          have : (t0.1 0).toInt = (A 0).toInt := ie_i i104989 0 (by decide)
          have p105027 : 0 ≤ (t0.1 0).toInt ∧ (t0.1 0).toInt ≤ 10 := by omega
          have p105028 : 0 ≤ N ∧ N ≤ 400 := by omega
          have p105029 : 0 ≤ R ∧ R ≤ 6 ∧ 0 ≤ W ∧ W ≤ 10 ∧ 0 ≤ R * W ∧ R * W ≤ 40 ∧ 0 ≤ D ∧ D ≤ 4 ∧ (D ≤ 0 ∨ 1 ≤ R) ∧ (1 ≤ R ∨ R * W = 0) := by omega
          have B105030 : mb (N) (R) (W) (D) ((va_up t0.1 6 z4), t0.2.1, t0.2.2.1, t0.2.2.2) := ⟨p105026, p105027, p105028, p105029, i104988.2.2.2.2.1, i104988.2.2.2.2.2.1, i104988.2.2.2.2.2.2.1, i104988.2.2.2.2.2.2.2⟩
          have p105031 : 0 < D := by omega
          have p105032 : 0 ≤ (z4).toInt ∧ (z4).toInt ≤ N := by omega
          have p105033 : (t0.1 14).toInt = 1 := by omega
          refine wq_X7_goesAll_3 B105030 p105031 p105032 p105033 (fun r_52 u_53 q105034 q105035 q105036 q105037 q105038 => ?_)
          have := q105034.1
          have := q105034.2.1
          replace q105036 : (r_52).toInt = 0 ∨ (r_52).toInt = 1 := q105036
          replace q105037 : (z4).toInt ≤ (u_53.1 6).toInt ∧ (u_53.1 6).toInt ≤ N := q105037
          replace q105038 : (r_52).toInt = 0 ∨ (u_53.1 14).toInt = (t0.1 14).toInt := q105038
          refine ⟨fun c105039 => ?_, fun c105040 => ?_⟩
          · replace c105039 := q_neq c105039
            rw [li_0] at c105039
            have p105041 : ie [1, 2, 6, 7, 8, 9, 10, 11, 12, 13, 14] u_53.1 A := (ie_tr q105035 (by decide) (ie_up (ie_tr i104989 (by decide) (ie_refl _ _)) (by decide)))
            have p105042 : (u_53.1 14).toInt = 1 := by omega
            have p105043 : (z4).toInt = G := by omega
            have p105044 : 0 ≤ G ∧ G ≤ (u_53.1 6).toInt ∧ (u_53.1 6).toInt ≤ N := by omega
            have e105045 := tq_addr li_1 z5
            try rw [Int.emod_eq_of_lt (show 0 ≤ (z5).toInt + 1 + 2147483648 by omega) (show (z5).toInt + 1 + 2147483648 < 4294967296 by omega)] at e105045
            have p105046 : 0 ≤ (z5 + 1).toInt ∧ (z5 + 1).toInt ≤ 21 ∧ (z2).toInt ≤ 20 := by omega
            have p105047 : 21 - (z5 + 1).toInt < ((n : Nat) : Int) := by (omega)
            exact ih _ _ _ _ _ _ q105034 p105041 p105042 p105043 p105044 p105046 p105047
          · replace c105040 := q_eq c105040
            rw [li_0] at c105040
            have p105048 : ie [1, 2, 6, 7, 8, 9, 10, 11, 12, 13, 14] u_53.1 A := (ie_tr q105035 (by decide) (ie_up (ie_tr i104989 (by decide) (ie_refl _ _)) (by decide)))
            have p105049 : (0 : Int32).toInt = 0 := by (have := li_0; omega)
            have p105050 : G ≤ (u_53.1 6).toInt ∧ (u_53.1 6).toInt ≤ N := by omega
            exact k _ _ q105034 p105048 p105049 p105050
        · replace c105025 := q_nle c105025
          have : (t0.1 5).toInt = (A 5).toInt := ie_i i104989 5 (by decide)
          have p105051 : (t0.1 5).toInt = N := by omega
          have : (t0.1 0).toInt = (A 0).toInt := ie_i i104989 0 (by decide)
          have p105052 : 0 ≤ (t0.1 0).toInt ∧ (t0.1 0).toInt ≤ 10 := by omega
          have p105053 : 0 ≤ N ∧ N ≤ 400 := by omega
          have p105054 : 0 ≤ R ∧ R ≤ 6 ∧ 0 ≤ W ∧ W ≤ 10 ∧ 0 ≤ R * W ∧ R * W ≤ 40 ∧ 0 ≤ D ∧ D ≤ 4 ∧ (D ≤ 0 ∨ 1 ≤ R) ∧ (1 ≤ R ∨ R * W = 0) := by omega
          have B105055 : mb (N) (R) (W) (D) ((va_up t0.1 6 z4), t0.2.1, t0.2.2.1, t0.2.2.2) := ⟨p105051, p105052, p105053, p105054, i104988.2.2.2.2.1, i104988.2.2.2.2.2.1, i104988.2.2.2.2.2.2.1, i104988.2.2.2.2.2.2.2⟩
          have p105056 : 0 < D := by omega
          have p105057 : 0 ≤ (z4).toInt ∧ (z4).toInt ≤ N := by omega
          have p105058 : (t0.1 14).toInt = 1 := by omega
          refine wq_X7_goesAll_3 B105055 p105056 p105057 p105058 (fun r_55 u_56 q105059 q105060 q105061 q105062 q105063 => ?_)
          have := q105059.1
          have := q105059.2.1
          replace q105061 : (r_55).toInt = 0 ∨ (r_55).toInt = 1 := q105061
          replace q105062 : (z4).toInt ≤ (u_56.1 6).toInt ∧ (u_56.1 6).toInt ≤ N := q105062
          replace q105063 : (r_55).toInt = 0 ∨ (u_56.1 14).toInt = (t0.1 14).toInt := q105063
          refine ⟨fun c105064 => ?_, fun c105065 => ?_⟩
          · replace c105064 := q_neq c105064
            rw [li_0] at c105064
            have p105066 : ie [1, 2, 6, 7, 8, 9, 10, 11, 12, 13, 14] u_56.1 A := (ie_tr q105060 (by decide) (ie_up (ie_tr i104989 (by decide) (ie_refl _ _)) (by decide)))
            have p105067 : (u_56.1 14).toInt = 1 := by omega
            have p105068 : (z4).toInt = G := by omega
            have p105069 : 0 ≤ G ∧ G ≤ (u_56.1 6).toInt ∧ (u_56.1 6).toInt ≤ N := by omega
            have e105070 := tq_addr li_1 z5
            try rw [Int.emod_eq_of_lt (show 0 ≤ (z5).toInt + 1 + 2147483648 by omega) (show (z5).toInt + 1 + 2147483648 < 4294967296 by omega)] at e105070
            have p105071 : 0 ≤ (z5 + 1).toInt ∧ (z5 + 1).toInt ≤ 21 ∧ (z2).toInt ≤ 20 := by omega
            have p105072 : 21 - (z5 + 1).toInt < ((n : Nat) : Int) := by (omega)
            exact ih _ _ _ _ _ _ q105059 p105066 p105067 p105068 p105069 p105071 p105072
          · replace c105065 := q_eq c105065
            rw [li_0] at c105065
            have p105073 : ie [1, 2, 6, 7, 8, 9, 10, 11, 12, 13, 14] u_56.1 A := (ie_tr q105060 (by decide) (ie_up (ie_tr i104989 (by decide) (ie_refl _ _)) (by decide)))
            have p105074 : (0 : Int32).toInt = 0 := by (have := li_0; omega)
            have p105075 : G ≤ (u_56.1 6).toInt ∧ (u_56.1 6).toInt ≤ N := by omega
            exact k _ _ q105059 p105073 p105074 p105075
    · replace c104996 := q_neq c104996
      rw [li_0] at c104996
      refine ⟨fun c105076 => ?_, fun c105077 => ?_⟩
      · replace c105076 := q_le c105076
        have p105078 : ie [1, 2, 6, 7, 8, 9, 10, 11, 12, 13, 14] t0.1 A := (ie_tr i104989 (by decide) (ie_refl _ _))
        have p105079 : (t0.1 14).toInt = 1 := by omega
        have p105080 : (z4).toInt = G := by omega
        have p105081 : 0 ≤ G ∧ G ≤ (t0.1 6).toInt ∧ (t0.1 6).toInt ≤ N := by omega
        have p105082 : 0 ≤ (z5).toInt ∧ (z5).toInt ≤ 21 ∧ (z2).toInt ≤ 20 := by omega
        exact ke141 _ _ _ _ _ _ i104988 p105078 p105079 p105080 p105081 p105082
      · replace c105077 := q_nle c105077
        refine ⟨fun c105083 => ?_, fun c105084 => ?_⟩
        · replace c105083 := q_eq c105083
          rw [li_0] at c105083
          have p105085 : ie [1, 2, 6, 7, 8, 9, 10, 11, 12, 13, 14] t0.1 A := (ie_tr i104989 (by decide) (ie_refl _ _))
          have p105086 : (t0.1 14).toInt = 1 := by omega
          have p105087 : (z4).toInt = G := by omega
          have p105088 : 0 ≤ G ∧ G ≤ (t0.1 6).toInt ∧ (t0.1 6).toInt ≤ N := by omega
          have p105089 : 0 ≤ (z5).toInt ∧ (z5).toInt ≤ 21 ∧ (z2).toInt ≤ 20 := by omega
          exact ke141 _ _ _ _ _ _ i104988 p105085 p105086 p105087 p105088 p105089
        · replace c105084 := q_neq c105084
          rw [li_0] at c105084
          refine ⟨fun c105090 => ?_, fun c105091 => ?_⟩
          · replace c105090 := q_eq c105090
            rw [li_0] at c105090
            have : (t0.1 5).toInt = (A 5).toInt := ie_i i104989 5 (by decide)
            have p105092 : (t0.1 5).toInt = N := by omega
            have : (t0.1 0).toInt = (A 0).toInt := ie_i i104989 0 (by decide)
            have p105093 : 0 ≤ (t0.1 0).toInt ∧ (t0.1 0).toInt ≤ 10 := by omega
            have p105094 : 0 ≤ N ∧ N ≤ 400 := by omega
            have p105095 : 0 ≤ R ∧ R ≤ 6 ∧ 0 ≤ W ∧ W ≤ 10 ∧ 0 ≤ R * W ∧ R * W ≤ 40 ∧ 0 ≤ D ∧ D ≤ 4 ∧ (D ≤ 0 ∨ 1 ≤ R) ∧ (1 ≤ R ∨ R * W = 0) := by omega
            have B105096 : mb (N) (R) (W) (D) ((va_up t0.1 6 z4), t0.2.1, t0.2.2.1, t0.2.2.2) := ⟨p105092, p105093, p105094, p105095, i104988.2.2.2.2.1, i104988.2.2.2.2.2.1, i104988.2.2.2.2.2.2.1, i104988.2.2.2.2.2.2.2⟩
            have p105097 : 0 < D := by omega
            have p105098 : 0 ≤ (z4).toInt ∧ (z4).toInt ≤ N := by omega
            have p105099 : (t0.1 14).toInt = 1 := by omega
            refine wq_X7_goesAll_3 B105096 p105097 p105098 p105099 (fun r_61 u_62 q105100 q105101 q105102 q105103 q105104 => ?_)
            have := q105100.1
            have := q105100.2.1
            replace q105102 : (r_61).toInt = 0 ∨ (r_61).toInt = 1 := q105102
            replace q105103 : (z4).toInt ≤ (u_62.1 6).toInt ∧ (u_62.1 6).toInt ≤ N := q105103
            replace q105104 : (r_61).toInt = 0 ∨ (u_62.1 14).toInt = (t0.1 14).toInt := q105104
            refine ⟨fun c105105 => ?_, fun c105106 => ?_⟩
            · replace c105105 := q_neq c105105
              rw [li_0] at c105105
              have p105107 : ie [1, 2, 6, 7, 8, 9, 10, 11, 12, 13, 14] u_62.1 A := (ie_tr q105101 (by decide) (ie_up (ie_tr i104989 (by decide) (ie_refl _ _)) (by decide)))
              have p105108 : (u_62.1 14).toInt = 1 := by omega
              have p105109 : (z4).toInt = G := by omega
              have p105110 : 0 ≤ G ∧ G ≤ (u_62.1 6).toInt ∧ (u_62.1 6).toInt ≤ N := by omega
              have e105111 := tq_addr li_1 z5
              try rw [Int.emod_eq_of_lt (show 0 ≤ (z5).toInt + 1 + 2147483648 by omega) (show (z5).toInt + 1 + 2147483648 < 4294967296 by omega)] at e105111
              have p105112 : 0 ≤ (z5 + 1).toInt ∧ (z5 + 1).toInt ≤ 21 ∧ (z2).toInt ≤ 20 := by omega
              have p105113 : 21 - (z5 + 1).toInt < ((n : Nat) : Int) := by (omega)
              exact ih _ _ _ _ _ _ q105100 p105107 p105108 p105109 p105110 p105112 p105113
            · replace c105106 := q_eq c105106
              rw [li_0] at c105106
              have p105114 : ie [1, 2, 6, 7, 8, 9, 10, 11, 12, 13, 14] u_62.1 A := (ie_tr q105101 (by decide) (ie_up (ie_tr i104989 (by decide) (ie_refl _ _)) (by decide)))
              have p105115 : (0 : Int32).toInt = 0 := by (have := li_0; omega)
              have p105116 : G ≤ (u_62.1 6).toInt ∧ (u_62.1 6).toInt ≤ N := by omega
              exact k _ _ q105100 p105114 p105115 p105116
          · replace c105091 := q_neq c105091
            rw [li_0] at c105091
            refine ⟨fun c105117 => ?_, fun c105118 => ?_⟩
            · replace c105117 := q_le c105117
              have : (t0.1 5).toInt = (A 5).toInt := ie_i i104989 5 (by decide)
              have p105119 : (t0.1 5).toInt = N := by omega
              have : (t0.1 0).toInt = (A 0).toInt := ie_i i104989 0 (by decide)
              have p105120 : 0 ≤ (t0.1 0).toInt ∧ (t0.1 0).toInt ≤ 10 := by omega
              have p105121 : 0 ≤ N ∧ N ≤ 400 := by omega
              have p105122 : 0 ≤ R ∧ R ≤ 6 ∧ 0 ≤ W ∧ W ≤ 10 ∧ 0 ≤ R * W ∧ R * W ≤ 40 ∧ 0 ≤ D ∧ D ≤ 4 ∧ (D ≤ 0 ∨ 1 ≤ R) ∧ (1 ≤ R ∨ R * W = 0) := by omega
              have B105123 : mb (N) (R) (W) (D) ((va_up t0.1 6 z4), t0.2.1, t0.2.2.1, t0.2.2.2) := ⟨p105119, p105120, p105121, p105122, i104988.2.2.2.2.1, i104988.2.2.2.2.2.1, i104988.2.2.2.2.2.2.1, i104988.2.2.2.2.2.2.2⟩
              have p105124 : 0 < D := by omega
              have p105125 : 0 ≤ (z4).toInt ∧ (z4).toInt ≤ N := by omega
              have p105126 : (t0.1 14).toInt = 1 := by omega
              refine wq_X7_goesAll_3 B105123 p105124 p105125 p105126 (fun r_65 u_66 q105127 q105128 q105129 q105130 q105131 => ?_)
              have := q105127.1
              have := q105127.2.1
              replace q105129 : (r_65).toInt = 0 ∨ (r_65).toInt = 1 := q105129
              replace q105130 : (z4).toInt ≤ (u_66.1 6).toInt ∧ (u_66.1 6).toInt ≤ N := q105130
              replace q105131 : (r_65).toInt = 0 ∨ (u_66.1 14).toInt = (t0.1 14).toInt := q105131
              refine ⟨fun c105132 => ?_, fun c105133 => ?_⟩
              · replace c105132 := q_neq c105132
                rw [li_0] at c105132
                have p105134 : ie [1, 2, 6, 7, 8, 9, 10, 11, 12, 13, 14] u_66.1 A := (ie_tr q105128 (by decide) (ie_up (ie_tr i104989 (by decide) (ie_refl _ _)) (by decide)))
                have p105135 : (u_66.1 14).toInt = 1 := by omega
                have p105136 : (z4).toInt = G := by omega
                have p105137 : 0 ≤ G ∧ G ≤ (u_66.1 6).toInt ∧ (u_66.1 6).toInt ≤ N := by omega
                have e105138 := tq_addr li_1 z5
                try rw [Int.emod_eq_of_lt (show 0 ≤ (z5).toInt + 1 + 2147483648 by omega) (show (z5).toInt + 1 + 2147483648 < 4294967296 by omega)] at e105138
                have p105139 : 0 ≤ (z5 + 1).toInt ∧ (z5 + 1).toInt ≤ 21 ∧ (z2).toInt ≤ 20 := by omega
                have p105140 : 21 - (z5 + 1).toInt < ((n : Nat) : Int) := by (omega)
                exact ih _ _ _ _ _ _ q105127 p105134 p105135 p105136 p105137 p105139 p105140
              · replace c105133 := q_eq c105133
                rw [li_0] at c105133
                have p105141 : ie [1, 2, 6, 7, 8, 9, 10, 11, 12, 13, 14] u_66.1 A := (ie_tr q105128 (by decide) (ie_up (ie_tr i104989 (by decide) (ie_refl _ _)) (by decide)))
                have p105142 : (0 : Int32).toInt = 0 := by (have := li_0; omega)
                have p105143 : G ≤ (u_66.1 6).toInt ∧ (u_66.1 6).toInt ≤ N := by omega
                exact k _ _ q105127 p105141 p105142 p105143
            · replace c105118 := q_nle c105118
              have : (t0.1 5).toInt = (A 5).toInt := ie_i i104989 5 (by decide)
              have p105144 : (t0.1 5).toInt = N := by omega
              have : (t0.1 0).toInt = (A 0).toInt := ie_i i104989 0 (by decide)
              have p105145 : 0 ≤ (t0.1 0).toInt ∧ (t0.1 0).toInt ≤ 10 := by omega
              have p105146 : 0 ≤ N ∧ N ≤ 400 := by omega
              have p105147 : 0 ≤ R ∧ R ≤ 6 ∧ 0 ≤ W ∧ W ≤ 10 ∧ 0 ≤ R * W ∧ R * W ≤ 40 ∧ 0 ≤ D ∧ D ≤ 4 ∧ (D ≤ 0 ∨ 1 ≤ R) ∧ (1 ≤ R ∨ R * W = 0) := by omega
              have B105148 : mb (N) (R) (W) (D) ((va_up t0.1 6 z4), t0.2.1, t0.2.2.1, t0.2.2.2) := ⟨p105144, p105145, p105146, p105147, i104988.2.2.2.2.1, i104988.2.2.2.2.2.1, i104988.2.2.2.2.2.2.1, i104988.2.2.2.2.2.2.2⟩
              have p105149 : 0 < D := by omega
              have p105150 : 0 ≤ (z4).toInt ∧ (z4).toInt ≤ N := by omega
              have p105151 : (t0.1 14).toInt = 1 := by omega
              refine wq_X7_goesAll_3 B105148 p105149 p105150 p105151 (fun r_68 u_69 q105152 q105153 q105154 q105155 q105156 => ?_)
              have := q105152.1
              have := q105152.2.1
              replace q105154 : (r_68).toInt = 0 ∨ (r_68).toInt = 1 := q105154
              replace q105155 : (z4).toInt ≤ (u_69.1 6).toInt ∧ (u_69.1 6).toInt ≤ N := q105155
              replace q105156 : (r_68).toInt = 0 ∨ (u_69.1 14).toInt = (t0.1 14).toInt := q105156
              refine ⟨fun c105157 => ?_, fun c105158 => ?_⟩
              · replace c105157 := q_neq c105157
                rw [li_0] at c105157
                have p105159 : ie [1, 2, 6, 7, 8, 9, 10, 11, 12, 13, 14] u_69.1 A := (ie_tr q105153 (by decide) (ie_up (ie_tr i104989 (by decide) (ie_refl _ _)) (by decide)))
                have p105160 : (u_69.1 14).toInt = 1 := by omega
                have p105161 : (z4).toInt = G := by omega
                have p105162 : 0 ≤ G ∧ G ≤ (u_69.1 6).toInt ∧ (u_69.1 6).toInt ≤ N := by omega
                have e105163 := tq_addr li_1 z5
                try rw [Int.emod_eq_of_lt (show 0 ≤ (z5).toInt + 1 + 2147483648 by omega) (show (z5).toInt + 1 + 2147483648 < 4294967296 by omega)] at e105163
                have p105164 : 0 ≤ (z5 + 1).toInt ∧ (z5 + 1).toInt ≤ 21 ∧ (z2).toInt ≤ 20 := by omega
                have p105165 : 21 - (z5 + 1).toInt < ((n : Nat) : Int) := by (omega)
                exact ih _ _ _ _ _ _ q105152 p105159 p105160 p105161 p105162 p105164 p105165
              · replace c105158 := q_eq c105158
                rw [li_0] at c105158
                have p105166 : ie [1, 2, 6, 7, 8, 9, 10, 11, 12, 13, 14] u_69.1 A := (ie_tr q105153 (by decide) (ie_up (ie_tr i104989 (by decide) (ie_refl _ _)) (by decide)))
                have p105167 : (0 : Int32).toInt = 0 := by (have := li_0; omega)
                have p105168 : G ≤ (u_69.1 6).toInt ∧ (u_69.1 6).toInt ≤ N := by omega
                exact k _ _ q105152 p105166 p105167 p105168
theorem wq_X7_goesTimes_4 {post : Int32 → Md → Prop} {s0 : Md} {x1 : Int32} {N R W D : Int} (h105169 : mb (N) (R) (W) (D) s0) (h105170 : 0 < D) (h105171 : 0 ≤ (s0.1 6).toInt ∧ (s0.1 6).toInt + 5 ≤ N) (h105172 : (s0.1 14).toInt = 0) (k : ∀ (r : Int32) (u : Md), mb (N) (R) (W) (D) u → ie [1, 2, 6, 7, 8, 9, 10, 11, 12, 13, 14] u.1 s0.1 → (r).toInt = 0 ∨ (r).toInt = 1 → (s0.1 6).toInt ≤ (u.1 6).toInt ∧ (u.1 6).toInt ≤ N → (r).toInt = 0 ∨ (u.1 14).toInt = (s0.1 14).toInt → post r u) : wp_X7_goesTimes_4 post s0 x1 := by
  unfold wp_X7_goesTimes_4
  have := h105169.1
  have := h105169.2.1
  have := h105169.2.2.1
  have := h105169.2.2.2.1
  have p105173 : (s0.1 5).toInt = N := by omega
  have p105174 : 0 ≤ (s0.1 0).toInt ∧ (s0.1 0).toInt ≤ 10 := by omega
  have p105175 : 0 ≤ N ∧ N ≤ 400 := by omega
  have p105176 : 0 ≤ R ∧ R ≤ 6 ∧ 0 ≤ W ∧ W ≤ 10 ∧ 0 ≤ R * W ∧ R * W ≤ 40 ∧ 0 ≤ D ∧ D ≤ 4 ∧ (D ≤ 0 ∨ 1 ≤ R) ∧ (1 ≤ R ∨ R * W = 0) := by omega
  have B105177 : mb (N) (R) (W) (D) ((va_up s0.1 6 ((s0.1 6) + 5)), s0.2.1, s0.2.2.1, s0.2.2.2) := ⟨p105173, p105174, p105175, p105176, h105169.2.2.2.2.1, h105169.2.2.2.2.2.1, h105169.2.2.2.2.2.2.1, h105169.2.2.2.2.2.2.2⟩
  have e105178 := tq_addr li_5 (s0.1 6)
  try rw [Int.emod_eq_of_lt (show 0 ≤ (s0.1 6).toInt + 5 + 2147483648 by omega) (show (s0.1 6).toInt + 5 + 2147483648 < 4294967296 by omega)] at e105178
  have p105179 : 0 ≤ ((s0.1 6) + 5).toInt ∧ ((s0.1 6) + 5).toInt ≤ N := by omega
  refine wq_X7_readsNumber B105177 p105179 (fun r_1 u_2 q105180 q105181 q105182 q105183 q105184 q105185 => ?_)
  have := q105180.1
  have := q105180.2.1
  replace q105182 : (r_1).toInt = 0 ∨ (r_1).toInt = 1 := q105182
  replace q105183 : ((s0.1 6) + 5).toInt ≤ (u_2.1 6).toInt ∧ (u_2.1 6).toInt ≤ N := q105183
  replace q105184 : (r_1).toInt = 0 ∨ (((0 : Int32)).toInt ≤ (u_2.1 8).toInt ∧ (u_2.1 8).toInt ≤ ((20 : Int32)).toInt) := q105184
  try simp only [li_0, li_20] at q105184
  refine ⟨fun c105186 => ?_, fun c105187 => ?_⟩
  · replace c105186 := q_neq c105186
    rw [li_0] at c105186
    have p105188 : 0 ≤ (u_2.1 6).toInt ∧ (u_2.1 6).toInt ≤ N := by omega
    refine wq_X7_nextByte q105180 p105188 (fun r_4 u_5 q105189 q105190 q105191 q105192 q105193 q105194 => ?_)
    have := q105189.1
    have := q105189.2.1
    refine ⟨fun c105195 => ?_, fun c105196 => ?_⟩
    · replace c105195 := q_neq c105195
      rw [li_40] at c105195
      have p105197 : 0 ≤ (u_5.1 6).toInt ∧ (u_5.1 6).toInt ≤ N := by omega
      have p105198 : ¬ ((40 : Int32)).toInt = -1 := by (have := li_40; omega)
      refine wq_X7_mustByte q105189 p105197 p105198 (fun r_7 u_8 q105199 q105200 q105201 q105202 q105203 q105204 => ?_)
      have := q105199.1
      have := q105199.2.1
      refine ⟨fun c105205 => ?_, fun c105206 => ?_⟩
      · replace c105205 := q_neq c105205
        rw [li_0] at c105205
        refine wq_X7_isDone q105199 (fun r_10 u_11 q105207 q105208 q105209 => ?_)
        have := q105207.1
        have := q105207.2.1
        have : (u_11.1 6).toInt = (u_8.1 6).toInt := ie_i q105208 6 (by decide)
        have p105210 : 0 < D := by omega
        have : (u_11.1 5).toInt = (u_8.1 5).toInt := ie_i q105208 5 (by decide)
        have : (u_8.1 5).toInt = (u_5.1 5).toInt := ie_i q105200 5 (by decide)
        have : (u_5.1 5).toInt = (u_2.1 5).toInt := ie_i q105190 5 (by decide)
        have : (u_2.1 5).toInt = (s0.1 5).toInt := ie_i q105181 5 (by decide)
        have p105211 : (u_11.1 5).toInt = N := by omega
        have : (u_11.1 0).toInt = (u_8.1 0).toInt := ie_i q105208 0 (by decide)
        have : (u_8.1 0).toInt = (u_5.1 0).toInt := ie_i q105200 0 (by decide)
        have : (u_5.1 0).toInt = (u_2.1 0).toInt := ie_i q105190 0 (by decide)
        have : (u_2.1 0).toInt = (s0.1 0).toInt := ie_i q105181 0 (by decide)
        have p105212 : 0 ≤ (u_11.1 0).toInt ∧ (u_11.1 0).toInt ≤ 10 := by omega
        have p105213 : 0 ≤ N ∧ N ≤ 400 := by omega
        have p105214 : 0 ≤ R ∧ R ≤ 6 ∧ 0 ≤ W ∧ W ≤ 10 ∧ 0 ≤ R * W ∧ R * W ≤ 40 ∧ 0 ≤ D ∧ D ≤ 4 ∧ (D ≤ 0 ∨ 1 ≤ R) ∧ (1 ≤ R ∨ R * W = 0) := by omega
        have B105215 : mb (N) (R) (W) (D) ((va_up u_11.1 14 ((u_11.1 14) + 1)), u_11.2.1, u_11.2.2.1, u_11.2.2.2) := ⟨p105211, p105212, p105213, p105214, q105207.2.2.2.2.1, q105207.2.2.2.2.2.1, q105207.2.2.2.2.2.2.1, q105207.2.2.2.2.2.2.2⟩
        have p105216 : ie [1, 2, 6, 7, 8, 9, 10, 11, 12, 13, 14] (va_up u_11.1 14 ((u_11.1 14) + 1)) (va_up u_11.1 14 ((u_11.1 14) + 1)) := (ie_refl _ _)
        have : (u_11.1 14).toInt = (u_8.1 14).toInt := ie_i q105208 14 (by decide)
        have : (u_8.1 14).toInt = (u_5.1 14).toInt := ie_i q105200 14 (by decide)
        have : (u_5.1 14).toInt = (u_2.1 14).toInt := ie_i q105190 14 (by decide)
        have : (u_2.1 14).toInt = (s0.1 14).toInt := ie_i q105181 14 (by decide)
        have e105217 := tq_addr li_1 (u_11.1 14)
        try rw [Int.emod_eq_of_lt (show 0 ≤ (u_11.1 14).toInt + 1 + 2147483648 by omega) (show (u_11.1 14).toInt + 1 + 2147483648 < 4294967296 by omega)] at e105217
        have p105218 : ((u_11.1 14) + 1).toInt = 1 := by omega
        have p105219 : (u_11.1 6).toInt = ((u_11.1 6).toInt) := by omega
        have p105220 : 0 ≤ ((u_11.1 6).toInt) ∧ ((u_11.1 6).toInt) ≤ (u_11.1 6).toInt ∧ (u_11.1 6).toInt ≤ N := by omega
        have p105221 : 0 ≤ (0 : Int32).toInt ∧ (0 : Int32).toInt ≤ 21 ∧ (u_2.1 8).toInt ≤ 20 := by (have := li_0; omega)
        obtain ⟨f105222, g105223⟩ := fu_e 50
        have p105224 : 21 - (0 : Int32).toInt < (f105222 : Int) := by (have := li_0; omega)
        refine ⟨f105222, wq_X7_goesTimes_4_L90 p105210 (fun t0 z1 z2 z3 z4 z5 q105225 q105226 q105227 q105228 q105229 q105230 => ?_) (fun r105231 u105232 q105233 q105234 q105235 q105236 => ?_) f105222 _ _ _ _ _ _ B105215 p105216 p105218 p105219 p105220 p105221 p105224⟩
        · have := q105225.1
          have := q105225.2.1
          have p105237 : 0 ≤ (t0.1 6).toInt ∧ (t0.1 6).toInt ≤ N := by omega
          have p105238 : ¬ ((41 : Int32)).toInt = -1 := by (have := li_41; omega)
          refine wq_X7_mustByte q105225 p105237 p105238 (fun r_37 u_38 q105239 q105240 q105241 q105242 q105243 q105244 => ?_)
          have := q105239.1
          have := q105239.2.1
          refine ⟨fun c105245 => ?_, fun c105246 => ?_⟩
          · replace c105245 := q_neq c105245
            rw [li_0] at c105245
            have : (u_38.1 5).toInt = (t0.1 5).toInt := ie_i q105240 5 (by decide)
            have : (t0.1 5).toInt = (u_11.1 5).toInt := ie_i q105226 5 (by decide)
            have p105247 : (u_38.1 5).toInt = N := by omega
            have : (u_38.1 0).toInt = (t0.1 0).toInt := ie_i q105240 0 (by decide)
            have : (t0.1 0).toInt = (u_11.1 0).toInt := ie_i q105226 0 (by decide)
            have p105248 : 0 ≤ (u_38.1 0).toInt ∧ (u_38.1 0).toInt ≤ 10 := by omega
            have p105249 : 0 ≤ N ∧ N ≤ 400 := by omega
            have p105250 : 0 ≤ R ∧ R ≤ 6 ∧ 0 ≤ W ∧ W ≤ 10 ∧ 0 ≤ R * W ∧ R * W ≤ 40 ∧ 0 ≤ D ∧ D ≤ 4 ∧ (D ≤ 0 ∨ 1 ≤ R) ∧ (1 ≤ R ∨ R * W = 0) := by omega
            have B105251 : mb (N) (R) (W) (D) ((va_up u_38.1 14 ((u_38.1 14) - 1)), u_38.2.1, u_38.2.2.1, u_38.2.2.2) := ⟨p105247, p105248, p105249, p105250, q105239.2.2.2.2.1, q105239.2.2.2.2.2.1, q105239.2.2.2.2.2.2.1, q105239.2.2.2.2.2.2.2⟩
            have p105252 : ie [1, 2, 6, 7, 8, 9, 10, 11, 12, 13, 14] (va_up u_38.1 14 ((u_38.1 14) - 1)) s0.1 := (ie_up (ie_tr q105240 (by decide) (ie_tr q105226 (by decide) (ie_up (ie_tr q105208 (by decide) (ie_tr q105200 (by decide) (ie_tr q105190 (by decide) (ie_tr q105181 (by decide) (ie_up (ie_refl _ _) (by decide)))))) (by decide)))) (by decide))
            have p105253 : (1 : Int32).toInt = 0 ∨ (1 : Int32).toInt = 1 := by (have := li_1; omega)
            have p105254 : (s0.1 6).toInt ≤ (u_38.1 6).toInt ∧ (u_38.1 6).toInt ≤ N := by omega
            have : (u_38.1 14).toInt = (t0.1 14).toInt := ie_i q105240 14 (by decide)
            have e105255 := tq_subr li_1 (u_38.1 14)
            try rw [Int.emod_eq_of_lt (show 0 ≤ (u_38.1 14).toInt - 1 + 2147483648 by omega) (show (u_38.1 14).toInt - 1 + 2147483648 < 4294967296 by omega)] at e105255
            have p105256 : (1 : Int32).toInt = 0 ∨ ((u_38.1 14) - 1).toInt = (s0.1 14).toInt := by (have := li_1; omega)
            exact k _ _ B105251 p105252 p105253 p105254 p105256
          · replace c105246 := q_eq c105246
            rw [li_0] at c105246
            have p105257 : ie [1, 2, 6, 7, 8, 9, 10, 11, 12, 13, 14] u_38.1 s0.1 := (ie_tr q105240 (by decide) (ie_tr q105226 (by decide) (ie_up (ie_tr q105208 (by decide) (ie_tr q105200 (by decide) (ie_tr q105190 (by decide) (ie_tr q105181 (by decide) (ie_up (ie_refl _ _) (by decide)))))) (by decide))))
            have p105258 : (0 : Int32).toInt = 0 ∨ (0 : Int32).toInt = 1 := by (have := li_0; omega)
            have p105259 : (s0.1 6).toInt ≤ (u_38.1 6).toInt ∧ (u_38.1 6).toInt ≤ N := by omega
            have : (u_38.1 14).toInt = (t0.1 14).toInt := ie_i q105240 14 (by decide)
            have p105260 : (0 : Int32).toInt = 0 ∨ (u_38.1 14).toInt = (s0.1 14).toInt := by (have := li_0; omega)
            exact k _ _ q105239 p105257 p105258 p105259 p105260
        · have := q105233.1
          have := q105233.2.1
          have p105261 : ie [1, 2, 6, 7, 8, 9, 10, 11, 12, 13, 14] u105232.1 s0.1 := (ie_tr q105234 (by decide) (ie_up (ie_tr q105208 (by decide) (ie_tr q105200 (by decide) (ie_tr q105190 (by decide) (ie_tr q105181 (by decide) (ie_up (ie_refl _ _) (by decide)))))) (by decide)))
          have p105262 : (r105231).toInt = 0 ∨ (r105231).toInt = 1 := by omega
          have p105263 : (s0.1 6).toInt ≤ (u105232.1 6).toInt ∧ (u105232.1 6).toInt ≤ N := by omega
          have p105264 : (r105231).toInt = 0 ∨ (u105232.1 14).toInt = (s0.1 14).toInt := by omega
          exact k _ _ q105233 p105261 p105262 p105263 p105264
      · replace c105206 := q_eq c105206
        rw [li_0] at c105206
        have p105265 : ie [1, 2, 6, 7, 8, 9, 10, 11, 12, 13, 14] u_8.1 s0.1 := (ie_tr q105200 (by decide) (ie_tr q105190 (by decide) (ie_tr q105181 (by decide) (ie_up (ie_refl _ _) (by decide)))))
        have p105266 : (0 : Int32).toInt = 0 ∨ (0 : Int32).toInt = 1 := by (have := li_0; omega)
        have p105267 : (s0.1 6).toInt ≤ (u_8.1 6).toInt ∧ (u_8.1 6).toInt ≤ N := by omega
        have : (u_8.1 14).toInt = (u_5.1 14).toInt := ie_i q105200 14 (by decide)
        have : (u_5.1 14).toInt = (u_2.1 14).toInt := ie_i q105190 14 (by decide)
        have : (u_2.1 14).toInt = (s0.1 14).toInt := ie_i q105181 14 (by decide)
        have p105268 : (0 : Int32).toInt = 0 ∨ (u_8.1 14).toInt = (s0.1 14).toInt := by (have := li_0; omega)
        exact k _ _ q105199 p105265 p105266 p105267 p105268
    · replace c105196 := q_eq c105196
      rw [li_40] at c105196
      refine ⟨fun c105269 => ?_, fun c105270 => ?_⟩
      · replace c105269 := q_neq c105269
        rw [li_3] at c105269
        have : (u_5.1 14).toInt = (u_2.1 14).toInt := ie_i q105190 14 (by decide)
        have : (u_2.1 14).toInt = (s0.1 14).toInt := ie_i q105181 14 (by decide)
        have p105271 : 0 ≤ (u_5.1 6).toInt ∧ (u_5.1 6).toInt ≤ N := by omega
        have p105272 : ¬ ((40 : Int32)).toInt = -1 := by (have := li_40; omega)
        refine wq_X7_mustByte q105189 p105271 p105272 (fun r_41 u_42 q105273 q105274 q105275 q105276 q105277 q105278 => ?_)
        have := q105273.1
        have := q105273.2.1
        refine ⟨fun c105279 => ?_, fun c105280 => ?_⟩
        · replace c105279 := q_neq c105279
          rw [li_0] at c105279
          refine wq_X7_isDone q105273 (fun r_44 u_45 q105281 q105282 q105283 => ?_)
          have := q105281.1
          have := q105281.2.1
          have : (u_45.1 6).toInt = (u_42.1 6).toInt := ie_i q105282 6 (by decide)
          have p105284 : 0 < D := by omega
          have : (u_45.1 5).toInt = (u_42.1 5).toInt := ie_i q105282 5 (by decide)
          have : (u_42.1 5).toInt = (u_5.1 5).toInt := ie_i q105274 5 (by decide)
          have : (u_5.1 5).toInt = (u_2.1 5).toInt := ie_i q105190 5 (by decide)
          have : (u_2.1 5).toInt = (s0.1 5).toInt := ie_i q105181 5 (by decide)
          have p105285 : (u_45.1 5).toInt = N := by omega
          have : (u_45.1 0).toInt = (u_42.1 0).toInt := ie_i q105282 0 (by decide)
          have : (u_42.1 0).toInt = (u_5.1 0).toInt := ie_i q105274 0 (by decide)
          have : (u_5.1 0).toInt = (u_2.1 0).toInt := ie_i q105190 0 (by decide)
          have : (u_2.1 0).toInt = (s0.1 0).toInt := ie_i q105181 0 (by decide)
          have p105286 : 0 ≤ (u_45.1 0).toInt ∧ (u_45.1 0).toInt ≤ 10 := by omega
          have p105287 : 0 ≤ N ∧ N ≤ 400 := by omega
          have p105288 : 0 ≤ R ∧ R ≤ 6 ∧ 0 ≤ W ∧ W ≤ 10 ∧ 0 ≤ R * W ∧ R * W ≤ 40 ∧ 0 ≤ D ∧ D ≤ 4 ∧ (D ≤ 0 ∨ 1 ≤ R) ∧ (1 ≤ R ∨ R * W = 0) := by omega
          have B105289 : mb (N) (R) (W) (D) ((va_up u_45.1 14 ((u_45.1 14) + 1)), u_45.2.1, u_45.2.2.1, u_45.2.2.2) := ⟨p105285, p105286, p105287, p105288, q105281.2.2.2.2.1, q105281.2.2.2.2.2.1, q105281.2.2.2.2.2.2.1, q105281.2.2.2.2.2.2.2⟩
          have p105290 : ie [1, 2, 6, 7, 8, 9, 10, 11, 12, 13, 14] (va_up u_45.1 14 ((u_45.1 14) + 1)) (va_up u_45.1 14 ((u_45.1 14) + 1)) := (ie_refl _ _)
          have : (u_45.1 14).toInt = (u_42.1 14).toInt := ie_i q105282 14 (by decide)
          have : (u_42.1 14).toInt = (u_5.1 14).toInt := ie_i q105274 14 (by decide)
          have e105291 := tq_addr li_1 (u_45.1 14)
          try rw [Int.emod_eq_of_lt (show 0 ≤ (u_45.1 14).toInt + 1 + 2147483648 by omega) (show (u_45.1 14).toInt + 1 + 2147483648 < 4294967296 by omega)] at e105291
          have p105292 : ((u_45.1 14) + 1).toInt = 1 := by omega
          have p105293 : (u_45.1 6).toInt = ((u_45.1 6).toInt) := by omega
          have p105294 : 0 ≤ ((u_45.1 6).toInt) ∧ ((u_45.1 6).toInt) ≤ (u_45.1 6).toInt ∧ (u_45.1 6).toInt ≤ N := by omega
          have p105295 : 0 ≤ (0 : Int32).toInt ∧ (0 : Int32).toInt ≤ 21 ∧ (u_2.1 8).toInt ≤ 20 := by (have := li_0; omega)
          obtain ⟨f105296, g105297⟩ := fu_e 50
          have p105298 : 21 - (0 : Int32).toInt < (f105296 : Int) := by (have := li_0; omega)
          refine ⟨f105296, wq_X7_goesTimes_4_L90b p105284 (fun t0 z1 z2 z3 z4 z5 q105299 q105300 q105301 q105302 q105303 q105304 => ?_) (fun r105305 u105306 q105307 q105308 q105309 q105310 => ?_) f105296 _ _ _ _ _ _ B105289 p105290 p105292 p105293 p105294 p105295 p105298⟩
          · have := q105299.1
            have := q105299.2.1
            have p105311 : 0 ≤ (t0.1 6).toInt ∧ (t0.1 6).toInt ≤ N := by omega
            have p105312 : ¬ ((41 : Int32)).toInt = -1 := by (have := li_41; omega)
            refine wq_X7_mustByte q105299 p105311 p105312 (fun r_71 u_72 q105313 q105314 q105315 q105316 q105317 q105318 => ?_)
            have := q105313.1
            have := q105313.2.1
            refine ⟨fun c105319 => ?_, fun c105320 => ?_⟩
            · replace c105319 := q_neq c105319
              rw [li_0] at c105319
              have : (u_72.1 5).toInt = (t0.1 5).toInt := ie_i q105314 5 (by decide)
              have : (t0.1 5).toInt = (u_45.1 5).toInt := ie_i q105300 5 (by decide)
              have p105321 : (u_72.1 5).toInt = N := by omega
              have : (u_72.1 0).toInt = (t0.1 0).toInt := ie_i q105314 0 (by decide)
              have : (t0.1 0).toInt = (u_45.1 0).toInt := ie_i q105300 0 (by decide)
              have p105322 : 0 ≤ (u_72.1 0).toInt ∧ (u_72.1 0).toInt ≤ 10 := by omega
              have p105323 : 0 ≤ N ∧ N ≤ 400 := by omega
              have p105324 : 0 ≤ R ∧ R ≤ 6 ∧ 0 ≤ W ∧ W ≤ 10 ∧ 0 ≤ R * W ∧ R * W ≤ 40 ∧ 0 ≤ D ∧ D ≤ 4 ∧ (D ≤ 0 ∨ 1 ≤ R) ∧ (1 ≤ R ∨ R * W = 0) := by omega
              have B105325 : mb (N) (R) (W) (D) ((va_up u_72.1 14 ((u_72.1 14) - 1)), u_72.2.1, u_72.2.2.1, u_72.2.2.2) := ⟨p105321, p105322, p105323, p105324, q105313.2.2.2.2.1, q105313.2.2.2.2.2.1, q105313.2.2.2.2.2.2.1, q105313.2.2.2.2.2.2.2⟩
              have p105326 : ie [1, 2, 6, 7, 8, 9, 10, 11, 12, 13, 14] (va_up u_72.1 14 ((u_72.1 14) - 1)) s0.1 := (ie_up (ie_tr q105314 (by decide) (ie_tr q105300 (by decide) (ie_up (ie_tr q105282 (by decide) (ie_tr q105274 (by decide) (ie_tr q105190 (by decide) (ie_tr q105181 (by decide) (ie_up (ie_refl _ _) (by decide)))))) (by decide)))) (by decide))
              have p105327 : (1 : Int32).toInt = 0 ∨ (1 : Int32).toInt = 1 := by (have := li_1; omega)
              have p105328 : (s0.1 6).toInt ≤ (u_72.1 6).toInt ∧ (u_72.1 6).toInt ≤ N := by omega
              have : (u_72.1 14).toInt = (t0.1 14).toInt := ie_i q105314 14 (by decide)
              have e105329 := tq_subr li_1 (u_72.1 14)
              try rw [Int.emod_eq_of_lt (show 0 ≤ (u_72.1 14).toInt - 1 + 2147483648 by omega) (show (u_72.1 14).toInt - 1 + 2147483648 < 4294967296 by omega)] at e105329
              have p105330 : (1 : Int32).toInt = 0 ∨ ((u_72.1 14) - 1).toInt = (s0.1 14).toInt := by (have := li_1; omega)
              exact k _ _ B105325 p105326 p105327 p105328 p105330
            · replace c105320 := q_eq c105320
              rw [li_0] at c105320
              have p105331 : ie [1, 2, 6, 7, 8, 9, 10, 11, 12, 13, 14] u_72.1 s0.1 := (ie_tr q105314 (by decide) (ie_tr q105300 (by decide) (ie_up (ie_tr q105282 (by decide) (ie_tr q105274 (by decide) (ie_tr q105190 (by decide) (ie_tr q105181 (by decide) (ie_up (ie_refl _ _) (by decide)))))) (by decide))))
              have p105332 : (0 : Int32).toInt = 0 ∨ (0 : Int32).toInt = 1 := by (have := li_0; omega)
              have p105333 : (s0.1 6).toInt ≤ (u_72.1 6).toInt ∧ (u_72.1 6).toInt ≤ N := by omega
              have : (u_72.1 14).toInt = (t0.1 14).toInt := ie_i q105314 14 (by decide)
              have p105334 : (0 : Int32).toInt = 0 ∨ (u_72.1 14).toInt = (s0.1 14).toInt := by (have := li_0; omega)
              exact k _ _ q105313 p105331 p105332 p105333 p105334
          · have := q105307.1
            have := q105307.2.1
            have p105335 : ie [1, 2, 6, 7, 8, 9, 10, 11, 12, 13, 14] u105306.1 s0.1 := (ie_tr q105308 (by decide) (ie_up (ie_tr q105282 (by decide) (ie_tr q105274 (by decide) (ie_tr q105190 (by decide) (ie_tr q105181 (by decide) (ie_up (ie_refl _ _) (by decide)))))) (by decide)))
            have p105336 : (r105305).toInt = 0 ∨ (r105305).toInt = 1 := by omega
            have p105337 : (s0.1 6).toInt ≤ (u105306.1 6).toInt ∧ (u105306.1 6).toInt ≤ N := by omega
            have p105338 : (r105305).toInt = 0 ∨ (u105306.1 14).toInt = (s0.1 14).toInt := by omega
            exact k _ _ q105307 p105335 p105336 p105337 p105338
        · replace c105280 := q_eq c105280
          rw [li_0] at c105280
          have p105339 : ie [1, 2, 6, 7, 8, 9, 10, 11, 12, 13, 14] u_42.1 s0.1 := (ie_tr q105274 (by decide) (ie_tr q105190 (by decide) (ie_tr q105181 (by decide) (ie_up (ie_refl _ _) (by decide)))))
          have p105340 : (0 : Int32).toInt = 0 ∨ (0 : Int32).toInt = 1 := by (have := li_0; omega)
          have p105341 : (s0.1 6).toInt ≤ (u_42.1 6).toInt ∧ (u_42.1 6).toInt ≤ N := by omega
          have : (u_42.1 14).toInt = (u_5.1 14).toInt := ie_i q105274 14 (by decide)
          have p105342 : (0 : Int32).toInt = 0 ∨ (u_42.1 14).toInt = (s0.1 14).toInt := by (have := li_0; omega)
          exact k _ _ q105273 p105339 p105340 p105341 p105342
      · replace c105270 := q_eq c105270
        rw [li_3] at c105270
        have : (u_5.1 14).toInt = (u_2.1 14).toInt := ie_i q105190 14 (by decide)
        have : (u_2.1 14).toInt = (s0.1 14).toInt := ie_i q105181 14 (by decide)
        refine wq_X7_fails q105189 (fun r_74 u_75 q105343 q105344 q105345 q105346 => ?_)
        have := q105343.1
        have := q105343.2.1
        refine ⟨(nb_b (by omega)), ?_⟩
        have p105347 : ie [1, 2, 6, 7, 8, 9, 10, 11, 12, 13, 14] u_75.1 s0.1 := (ie_tr q105344 (by decide) (ie_tr q105190 (by decide) (ie_tr q105181 (by decide) (ie_up (ie_refl _ _) (by decide)))))
        have p105348 : (r_74).toInt = 0 ∨ (r_74).toInt = 1 := by omega
        have : (u_75.1 6).toInt = (u_5.1 6).toInt := ie_i q105344 6 (by decide)
        have p105349 : (s0.1 6).toInt ≤ (u_75.1 6).toInt ∧ (u_75.1 6).toInt ≤ N := by omega
        have : (u_75.1 14).toInt = (u_5.1 14).toInt := ie_i q105344 14 (by decide)
        have p105350 : (r_74).toInt = 0 ∨ (u_75.1 14).toInt = (s0.1 14).toInt := by omega
        exact k _ _ q105343 p105347 p105348 p105349 p105350
  · replace c105187 := q_eq c105187
    rw [li_0] at c105187
    have p105351 : ie [1, 2, 6, 7, 8, 9, 10, 11, 12, 13, 14] u_2.1 s0.1 := (ie_tr q105181 (by decide) (ie_up (ie_refl _ _) (by decide)))
    have p105352 : (0 : Int32).toInt = 0 ∨ (0 : Int32).toInt = 1 := by (have := li_0; omega)
    have p105353 : (s0.1 6).toInt ≤ (u_2.1 6).toInt ∧ (u_2.1 6).toInt ≤ N := by omega
    have : (u_2.1 14).toInt = (s0.1 14).toInt := ie_i q105181 14 (by decide)
    have p105354 : (0 : Int32).toInt = 0 ∨ (u_2.1 14).toInt = (s0.1 14).toInt := by (have := li_0; omega)
    exact k _ _ q105180 p105351 p105352 p105353 p105354
theorem wq_X7_goesOne_4 {post : Int32 → Md → Prop} {s0 : Md} {x1 : Int32} {N R W D : Int} (h105355 : mb (N) (R) (W) (D) s0) (h105356 : 0 < D) (h105357 : 0 ≤ (s0.1 6).toInt ∧ (s0.1 6).toInt ≤ N) (h105358 : (s0.1 14).toInt = 0) (k : ∀ (r : Int32) (u : Md), mb (N) (R) (W) (D) u → ie [1, 2, 6, 7, 8, 9, 10, 11, 12, 13, 14] u.1 s0.1 → (r).toInt = 0 ∨ (r).toInt = 1 → (s0.1 6).toInt ≤ (u.1 6).toInt ∧ (u.1 6).toInt ≤ N → (r).toInt = 0 ∨ (u.1 14).toInt = (s0.1 14).toInt → post r u) : wp_X7_goesOne_4 post s0 x1 := by
  unfold wp_X7_goesOne_4
  have := h105355.1
  have := h105355.2.1
  have := h105355.2.2.1
  have := h105355.2.2.2.1
  have p105359 : 0 ≤ (s0.1 6).toInt ∧ (s0.1 6).toInt ≤ N := by omega
  have p105360 : 1 ≤ ln 5 ∧ ln 5 ≤ 9 := by first | assumption | decide
  refine wq_X7_isWord h105355 p105359 p105360 (fun r_1 u_2 q105361 q105362 q105363 q105364 q105365 q105366 q105367 => ?_)
  have := q105361.1
  have := q105361.2.1
  have := ln_5
  refine ⟨fun c105368 => ?_, fun c105369 => ?_⟩
  · replace c105368 := q_eq c105368
    rw [li_0] at c105368
    have p105370 : 0 ≤ (u_2.1 6).toInt ∧ (u_2.1 6).toInt ≤ N := by omega
    have p105371 : 1 ≤ ln 7 ∧ ln 7 ≤ 9 := by first | assumption | decide
    refine wq_X7_isWord q105361 p105370 p105371 (fun r_4 u_5 q105372 q105373 q105374 q105375 q105376 q105377 q105378 => ?_)
    have := q105372.1
    have := q105372.2.1
    have := ln_7
    refine ⟨fun c105379 => ?_, fun c105380 => ?_⟩
    · replace c105379 := q_eq c105379
      rw [li_0] at c105379
      have p105381 : 0 ≤ (u_5.1 6).toInt ∧ (u_5.1 6).toInt ≤ N := by omega
      have p105382 : 1 ≤ ln 8 ∧ ln 8 ≤ 9 := by first | assumption | decide
      refine wq_X7_isWord q105372 p105381 p105382 (fun r_7 u_8 q105383 q105384 q105385 q105386 q105387 q105388 q105389 => ?_)
      have := q105383.1
      have := q105383.2.1
      have := ln_8
      refine ⟨fun c105390 => ?_, fun c105391 => ?_⟩
      · replace c105390 := q_eq c105390
        rw [li_0] at c105390
        have p105392 : 0 ≤ (u_8.1 6).toInt ∧ (u_8.1 6).toInt ≤ N := by omega
        have p105393 : 1 ≤ ln 9 ∧ ln 9 ≤ 9 := by first | assumption | decide
        refine wq_X7_isWord q105383 p105392 p105393 (fun r_10 u_11 q105394 q105395 q105396 q105397 q105398 q105399 q105400 => ?_)
        have := q105394.1
        have := q105394.2.1
        have := ln_9
        refine ⟨fun c105401 => ?_, fun c105402 => ?_⟩
        · replace c105401 := q_eq c105401
          rw [li_0] at c105401
          have p105403 : 0 ≤ (u_11.1 6).toInt ∧ (u_11.1 6).toInt ≤ N := by omega
          have p105404 : 1 ≤ ln 10 ∧ ln 10 ≤ 9 := by first | assumption | decide
          refine wq_X7_isWord q105394 p105403 p105404 (fun r_13 u_14 q105405 q105406 q105407 q105408 q105409 q105410 q105411 => ?_)
          have := q105405.1
          have := q105405.2.1
          have := ln_10
          refine ⟨fun c105412 => ?_, fun c105413 => ?_⟩
          · replace c105412 := q_eq c105412
            rw [li_0] at c105412
            have p105414 : 0 ≤ (u_14.1 6).toInt ∧ (u_14.1 6).toInt ≤ N := by omega
            have p105415 : 1 ≤ ln 6 ∧ ln 6 ≤ 9 := by first | assumption | decide
            refine wq_X7_isWord q105405 p105414 p105415 (fun r_16 u_17 q105416 q105417 q105418 q105419 q105420 q105421 q105422 => ?_)
            have := q105416.1
            have := q105416.2.1
            have := ln_6
            refine ⟨fun c105423 => ?_, fun c105424 => ?_⟩
            · replace c105423 := q_eq c105423
              rw [li_0] at c105423
              have p105425 : 0 ≤ (u_17.1 6).toInt ∧ (u_17.1 6).toInt ≤ N := by omega
              have p105426 : 1 ≤ ln 11 ∧ ln 11 ≤ 9 := by first | assumption | decide
              refine wq_X7_isWord q105416 p105425 p105426 (fun r_19 u_20 q105427 q105428 q105429 q105430 q105431 q105432 q105433 => ?_)
              have := q105427.1
              have := q105427.2.1
              have := ln_11
              refine ⟨fun c105434 => ?_, fun c105435 => ?_⟩
              · replace c105434 := q_eq c105434
                rw [li_0] at c105434
                refine wq_X7_fails q105427 (fun r_22 u_23 q105436 q105437 q105438 q105439 => ?_)
                have := q105436.1
                have := q105436.2.1
                refine ⟨(nb_b (by omega)), ?_⟩
                have p105440 : ie [1, 2, 6, 7, 8, 9, 10, 11, 12, 13, 14] u_23.1 s0.1 := (ie_tr q105437 (by decide) (ie_tr q105428 (by decide) (ie_tr q105417 (by decide) (ie_tr q105406 (by decide) (ie_tr q105395 (by decide) (ie_tr q105384 (by decide) (ie_tr q105373 (by decide) (ie_tr q105362 (by decide) (ie_refl _ _)))))))))
                have p105441 : (r_22).toInt = 0 ∨ (r_22).toInt = 1 := by omega
                have : (u_23.1 6).toInt = (u_20.1 6).toInt := ie_i q105437 6 (by decide)
                have p105442 : (s0.1 6).toInt ≤ (u_23.1 6).toInt ∧ (u_23.1 6).toInt ≤ N := by omega
                have : (u_23.1 14).toInt = (u_20.1 14).toInt := ie_i q105437 14 (by decide)
                have : (u_20.1 14).toInt = (u_17.1 14).toInt := ie_i q105428 14 (by decide)
                have : (u_17.1 14).toInt = (u_14.1 14).toInt := ie_i q105417 14 (by decide)
                have : (u_14.1 14).toInt = (u_11.1 14).toInt := ie_i q105406 14 (by decide)
                have : (u_11.1 14).toInt = (u_8.1 14).toInt := ie_i q105395 14 (by decide)
                have : (u_8.1 14).toInt = (u_5.1 14).toInt := ie_i q105384 14 (by decide)
                have : (u_5.1 14).toInt = (u_2.1 14).toInt := ie_i q105373 14 (by decide)
                have : (u_2.1 14).toInt = (s0.1 14).toInt := ie_i q105362 14 (by decide)
                have p105443 : (r_22).toInt = 0 ∨ (u_23.1 14).toInt = (s0.1 14).toInt := by omega
                exact k _ _ q105436 p105440 p105441 p105442 p105443
              · replace c105435 := q_neq c105435
                rw [li_0] at c105435
                have p105444 : 0 < D := by omega
                have p105445 : 0 ≤ (u_20.1 6).toInt ∧ (u_20.1 6).toInt + 5 ≤ N := by omega
                have : (u_20.1 14).toInt = (u_17.1 14).toInt := ie_i q105428 14 (by decide)
                have : (u_17.1 14).toInt = (u_14.1 14).toInt := ie_i q105417 14 (by decide)
                have : (u_14.1 14).toInt = (u_11.1 14).toInt := ie_i q105406 14 (by decide)
                have : (u_11.1 14).toInt = (u_8.1 14).toInt := ie_i q105395 14 (by decide)
                have : (u_8.1 14).toInt = (u_5.1 14).toInt := ie_i q105384 14 (by decide)
                have : (u_5.1 14).toInt = (u_2.1 14).toInt := ie_i q105373 14 (by decide)
                have : (u_2.1 14).toInt = (s0.1 14).toInt := ie_i q105362 14 (by decide)
                have p105446 : (u_20.1 14).toInt = 0 := by omega
                refine wq_X7_goesTimes_4 q105427 p105444 p105445 p105446 (fun r_25 u_26 q105447 q105448 q105449 q105450 q105451 => ?_)
                have := q105447.1
                have := q105447.2.1
                refine ⟨(nb_b (by omega)), ?_⟩
                have p105452 : ie [1, 2, 6, 7, 8, 9, 10, 11, 12, 13, 14] u_26.1 s0.1 := (ie_tr q105448 (by decide) (ie_tr q105428 (by decide) (ie_tr q105417 (by decide) (ie_tr q105406 (by decide) (ie_tr q105395 (by decide) (ie_tr q105384 (by decide) (ie_tr q105373 (by decide) (ie_tr q105362 (by decide) (ie_refl _ _)))))))))
                have p105453 : (r_25).toInt = 0 ∨ (r_25).toInt = 1 := by omega
                have p105454 : (s0.1 6).toInt ≤ (u_26.1 6).toInt ∧ (u_26.1 6).toInt ≤ N := by omega
                have p105455 : (r_25).toInt = 0 ∨ (u_26.1 14).toInt = (s0.1 14).toInt := by omega
                exact k _ _ q105447 p105452 p105453 p105454 p105455
            · replace c105424 := q_neq c105424
              rw [li_0] at c105424
              have p105456 : 0 < D := by omega
              have p105457 : 0 ≤ (u_17.1 6).toInt ∧ (u_17.1 6).toInt + 4 ≤ N := by omega
              refine wq_X7_goesLose q105416 p105456 p105457 (fun r_28 u_29 q105458 q105459 q105460 q105461 => ?_)
              have := q105458.1
              have := q105458.2.1
              refine ⟨(nb_b (by omega)), ?_⟩
              have p105462 : ie [1, 2, 6, 7, 8, 9, 10, 11, 12, 13, 14] u_29.1 s0.1 := (ie_tr q105459 (by decide) (ie_tr q105417 (by decide) (ie_tr q105406 (by decide) (ie_tr q105395 (by decide) (ie_tr q105384 (by decide) (ie_tr q105373 (by decide) (ie_tr q105362 (by decide) (ie_refl _ _))))))))
              have p105463 : (r_28).toInt = 0 ∨ (r_28).toInt = 1 := by omega
              have p105464 : (s0.1 6).toInt ≤ (u_29.1 6).toInt ∧ (u_29.1 6).toInt ≤ N := by omega
              have : (u_29.1 14).toInt = (u_17.1 14).toInt := ie_i q105459 14 (by decide)
              have : (u_17.1 14).toInt = (u_14.1 14).toInt := ie_i q105417 14 (by decide)
              have : (u_14.1 14).toInt = (u_11.1 14).toInt := ie_i q105406 14 (by decide)
              have : (u_11.1 14).toInt = (u_8.1 14).toInt := ie_i q105395 14 (by decide)
              have : (u_8.1 14).toInt = (u_5.1 14).toInt := ie_i q105384 14 (by decide)
              have : (u_5.1 14).toInt = (u_2.1 14).toInt := ie_i q105373 14 (by decide)
              have : (u_2.1 14).toInt = (s0.1 14).toInt := ie_i q105362 14 (by decide)
              have p105465 : (r_28).toInt = 0 ∨ (u_29.1 14).toInt = (s0.1 14).toInt := by omega
              exact k _ _ q105458 p105462 p105463 p105464 p105465
          · replace c105413 := q_neq c105413
            rw [li_0] at c105413
            have p105466 : 0 < D := by omega
            have p105467 : 0 ≤ (u_14.1 6).toInt ∧ (u_14.1 6).toInt + 6 ≤ N := by omega
            refine wq_X7_goesSettle q105405 p105466 p105467 (fun r_31 u_32 q105468 q105469 q105470 q105471 => ?_)
            have := q105468.1
            have := q105468.2.1
            refine ⟨(nb_b (by omega)), ?_⟩
            have p105472 : ie [1, 2, 6, 7, 8, 9, 10, 11, 12, 13, 14] u_32.1 s0.1 := (ie_tr q105469 (by decide) (ie_tr q105406 (by decide) (ie_tr q105395 (by decide) (ie_tr q105384 (by decide) (ie_tr q105373 (by decide) (ie_tr q105362 (by decide) (ie_refl _ _)))))))
            have p105473 : (r_31).toInt = 0 ∨ (r_31).toInt = 1 := by omega
            have p105474 : (s0.1 6).toInt ≤ (u_32.1 6).toInt ∧ (u_32.1 6).toInt ≤ N := by omega
            have : (u_32.1 14).toInt = (u_14.1 14).toInt := ie_i q105469 14 (by decide)
            have : (u_14.1 14).toInt = (u_11.1 14).toInt := ie_i q105406 14 (by decide)
            have : (u_11.1 14).toInt = (u_8.1 14).toInt := ie_i q105395 14 (by decide)
            have : (u_8.1 14).toInt = (u_5.1 14).toInt := ie_i q105384 14 (by decide)
            have : (u_5.1 14).toInt = (u_2.1 14).toInt := ie_i q105373 14 (by decide)
            have : (u_2.1 14).toInt = (s0.1 14).toInt := ie_i q105362 14 (by decide)
            have p105475 : (r_31).toInt = 0 ∨ (u_32.1 14).toInt = (s0.1 14).toInt := by omega
            exact k _ _ q105468 p105472 p105473 p105474 p105475
        · replace c105402 := q_neq c105402
          rw [li_0] at c105402
          have p105476 : 0 < D := by omega
          have p105477 : 0 ≤ (u_11.1 6).toInt ∧ (u_11.1 6).toInt + 4 ≤ N := by omega
          refine wq_X7_goesWait q105394 p105476 p105477 (fun r_34 u_35 q105478 q105479 q105480 q105481 => ?_)
          have := q105478.1
          have := q105478.2.1
          refine ⟨(nb_b (by omega)), ?_⟩
          have p105482 : ie [1, 2, 6, 7, 8, 9, 10, 11, 12, 13, 14] u_35.1 s0.1 := (ie_tr q105479 (by decide) (ie_tr q105395 (by decide) (ie_tr q105384 (by decide) (ie_tr q105373 (by decide) (ie_tr q105362 (by decide) (ie_refl _ _))))))
          have p105483 : (r_34).toInt = 0 ∨ (r_34).toInt = 1 := by omega
          have p105484 : (s0.1 6).toInt ≤ (u_35.1 6).toInt ∧ (u_35.1 6).toInt ≤ N := by omega
          have : (u_35.1 14).toInt = (u_11.1 14).toInt := ie_i q105479 14 (by decide)
          have : (u_11.1 14).toInt = (u_8.1 14).toInt := ie_i q105395 14 (by decide)
          have : (u_8.1 14).toInt = (u_5.1 14).toInt := ie_i q105384 14 (by decide)
          have : (u_5.1 14).toInt = (u_2.1 14).toInt := ie_i q105373 14 (by decide)
          have : (u_2.1 14).toInt = (s0.1 14).toInt := ie_i q105362 14 (by decide)
          have p105485 : (r_34).toInt = 0 ∨ (u_35.1 14).toInt = (s0.1 14).toInt := by omega
          exact k _ _ q105478 p105482 p105483 p105484 p105485
      · replace c105391 := q_neq c105391
        rw [li_0] at c105391
        have p105486 : 0 < D := by omega
        have p105487 : 0 ≤ (u_8.1 6).toInt ∧ (u_8.1 6).toInt + 4 ≤ N := by omega
        refine wq_X7_goesHome q105383 p105486 p105487 (fun r_37 u_38 q105488 q105489 q105490 q105491 => ?_)
        have := q105488.1
        have := q105488.2.1
        refine ⟨(nb_b (by omega)), ?_⟩
        have p105492 : ie [1, 2, 6, 7, 8, 9, 10, 11, 12, 13, 14] u_38.1 s0.1 := (ie_tr q105489 (by decide) (ie_tr q105384 (by decide) (ie_tr q105373 (by decide) (ie_tr q105362 (by decide) (ie_refl _ _)))))
        have p105493 : (r_37).toInt = 0 ∨ (r_37).toInt = 1 := by omega
        have p105494 : (s0.1 6).toInt ≤ (u_38.1 6).toInt ∧ (u_38.1 6).toInt ≤ N := by omega
        have : (u_38.1 14).toInt = (u_8.1 14).toInt := ie_i q105489 14 (by decide)
        have : (u_8.1 14).toInt = (u_5.1 14).toInt := ie_i q105384 14 (by decide)
        have : (u_5.1 14).toInt = (u_2.1 14).toInt := ie_i q105373 14 (by decide)
        have : (u_2.1 14).toInt = (s0.1 14).toInt := ie_i q105362 14 (by decide)
        have p105495 : (r_37).toInt = 0 ∨ (u_38.1 14).toInt = (s0.1 14).toInt := by omega
        exact k _ _ q105488 p105492 p105493 p105494 p105495
    · replace c105380 := q_neq c105380
      rw [li_0] at c105380
      have p105496 : 0 < D := by omega
      have p105497 : 0 ≤ (u_5.1 6).toInt ∧ (u_5.1 6).toInt + 6 ≤ N := by omega
      refine wq_X7_goesScroll q105372 p105496 p105497 (fun r_40 u_41 q105498 q105499 q105500 q105501 => ?_)
      have := q105498.1
      have := q105498.2.1
      refine ⟨(nb_b (by omega)), ?_⟩
      have p105502 : ie [1, 2, 6, 7, 8, 9, 10, 11, 12, 13, 14] u_41.1 s0.1 := (ie_tr q105499 (by decide) (ie_tr q105373 (by decide) (ie_tr q105362 (by decide) (ie_refl _ _))))
      have p105503 : (r_40).toInt = 0 ∨ (r_40).toInt = 1 := by omega
      have p105504 : (s0.1 6).toInt ≤ (u_41.1 6).toInt ∧ (u_41.1 6).toInt ≤ N := by omega
      have : (u_41.1 14).toInt = (u_5.1 14).toInt := ie_i q105499 14 (by decide)
      have : (u_5.1 14).toInt = (u_2.1 14).toInt := ie_i q105373 14 (by decide)
      have : (u_2.1 14).toInt = (s0.1 14).toInt := ie_i q105362 14 (by decide)
      have p105505 : (r_40).toInt = 0 ∨ (u_41.1 14).toInt = (s0.1 14).toInt := by omega
      exact k _ _ q105498 p105502 p105503 p105504 p105505
  · replace c105369 := q_neq c105369
    rw [li_0] at c105369
    have p105506 : 0 < D := by omega
    have p105507 : 0 ≤ (u_2.1 6).toInt ∧ (u_2.1 6).toInt + 3 ≤ N := by omega
    refine wq_X7_goesRow q105361 p105506 p105507 (fun r_43 u_44 q105508 q105509 q105510 q105511 => ?_)
    have := q105508.1
    have := q105508.2.1
    refine ⟨(nb_b (by omega)), ?_⟩
    have p105512 : ie [1, 2, 6, 7, 8, 9, 10, 11, 12, 13, 14] u_44.1 s0.1 := (ie_tr q105509 (by decide) (ie_tr q105362 (by decide) (ie_refl _ _)))
    have p105513 : (r_43).toInt = 0 ∨ (r_43).toInt = 1 := by omega
    have p105514 : (s0.1 6).toInt ≤ (u_44.1 6).toInt ∧ (u_44.1 6).toInt ≤ N := by omega
    have : (u_44.1 14).toInt = (u_2.1 14).toInt := ie_i q105509 14 (by decide)
    have : (u_2.1 14).toInt = (s0.1 14).toInt := ie_i q105362 14 (by decide)
    have p105515 : (r_43).toInt = 0 ∨ (u_44.1 14).toInt = (s0.1 14).toInt := by omega
    exact k _ _ q105508 p105512 p105513 p105514 p105515

theorem wq_X7_goesAll_4_L10 {post : Int32 → Md → Prop} {e27 : Md → Int32 → Prop} {e29 : Md → Int32 → Prop} {D N R W G : Int} {A : Nat → Int32} (h105516 : 0 < D) (ke27 : ∀ (t0 : Md) (z1 : Int32), mb (N) (R) (W) (D) t0 → ie [1, 2, 6, 7, 8, 9, 10, 11, 12, 13, 14] t0.1 A → G ≤ (t0.1 6).toInt ∧ (t0.1 6).toInt ≤ N → e27 t0 z1) (ke29 : ∀ (t0 : Md) (z1 : Int32), mb (N) (R) (W) (D) t0 → ie [1, 2, 6, 7, 8, 9, 10, 11, 12, 13, 14] t0.1 A → (t0.1 14).toInt = 0 → G ≤ (t0.1 6).toInt ∧ (t0.1 6).toInt ≤ N → e29 t0 z1) : ∀ (n : Nat) (t0 : Md) (z1 : Int32), mb (N) (R) (W) (D) t0 → ie [1, 2, 6, 7, 8, 9, 10, 11, 12, 13, 14] t0.1 A → (t0.1 14).toInt = 0 → 0 ≤ G ∧ G ≤ (t0.1 6).toInt ∧ (t0.1 6).toInt ≤ N → N - (t0.1 6).toInt < (n : Int) → wp_X7_goesAll_4_L10 post e27 e29 n t0 z1 := by
  intro n
  induction n with
  | zero =>
    intro t0 z1 i105517 i105518 i105519 i105520 i105521
    have := i105517.1
    have := i105517.2.1
    have := i105517.2.2.1
    have := i105517.2.2.2.1
    exfalso
    omega
  | succ n ih =>
    intro t0 z1 i105517 i105518 i105519 i105520 i105521
    unfold wp_X7_goesAll_4_L10
    have := i105517.1
    have := i105517.2.1
    have := i105517.2.2.1
    have := i105517.2.2.2.1
    have p105522 : 0 ≤ (t0.1 6).toInt ∧ (t0.1 6).toInt ≤ N := by omega
    have p105523 : ¬ ((59 : Int32)).toInt = -1 := by (have := li_59; omega)
    refine wq_X7_takesByte i105517 p105522 p105523 (fun r_4 u_5 q105524 q105525 q105526 q105527 q105528 q105529 => ?_)
    have := q105524.1
    have := q105524.2.1
    refine ⟨fun c105530 => ?_, fun c105531 => ?_⟩
    · replace c105530 := q_eq c105530
      rw [li_0] at c105530
      have p105532 : ie [1, 2, 6, 7, 8, 9, 10, 11, 12, 13, 14] u_5.1 A := (ie_tr q105525 (by decide) (ie_tr i105518 (by decide) (ie_refl _ _)))
      have : (u_5.1 14).toInt = (t0.1 14).toInt := ie_i q105525 14 (by decide)
      have p105533 : (u_5.1 14).toInt = 0 := by omega
      have p105534 : G ≤ (u_5.1 6).toInt ∧ (u_5.1 6).toInt ≤ N := by omega
      exact ke29 _ _ q105524 p105532 p105533 p105534
    · replace c105531 := q_neq c105531
      rw [li_0] at c105531
      have p105535 : 0 < D := by omega
      have p105536 : 0 ≤ (u_5.1 6).toInt ∧ (u_5.1 6).toInt ≤ N := by omega
      have : (u_5.1 14).toInt = (t0.1 14).toInt := ie_i q105525 14 (by decide)
      have p105537 : (u_5.1 14).toInt = 0 := by omega
      refine wq_X7_goesOne_4 q105524 p105535 p105536 p105537 (fun r_7 u_8 q105538 q105539 q105540 q105541 q105542 => ?_)
      have := q105538.1
      have := q105538.2.1
      refine ⟨fun c105543 => ?_, fun c105544 => ?_⟩
      · replace c105543 := q_neq c105543
        rw [li_0] at c105543
        have p105545 : ie [1, 2, 6, 7, 8, 9, 10, 11, 12, 13, 14] u_8.1 A := (ie_tr q105539 (by decide) (ie_tr q105525 (by decide) (ie_tr i105518 (by decide) (ie_refl _ _))))
        have p105546 : (u_8.1 14).toInt = 0 := by omega
        have p105547 : 0 ≤ G ∧ G ≤ (u_8.1 6).toInt ∧ (u_8.1 6).toInt ≤ N := by omega
        have p105548 : N - (u_8.1 6).toInt < ((n : Nat) : Int) := by (omega)
        exact ih _ _ q105538 p105545 p105546 p105547 p105548
      · replace c105544 := q_eq c105544
        rw [li_0] at c105544
        have p105549 : ie [1, 2, 6, 7, 8, 9, 10, 11, 12, 13, 14] u_8.1 A := (ie_tr q105539 (by decide) (ie_tr q105525 (by decide) (ie_tr i105518 (by decide) (ie_refl _ _))))
        have p105550 : G ≤ (u_8.1 6).toInt ∧ (u_8.1 6).toInt ≤ N := by omega
        exact ke27 _ _ q105538 p105549 p105550
theorem wq_X7_goesAll_4 {post : Int32 → Md → Prop} {s0 : Md} {x1 : Int32} {N R W D : Int} (h105551 : mb (N) (R) (W) (D) s0) (h105552 : 0 < D) (h105553 : 0 ≤ (s0.1 6).toInt ∧ (s0.1 6).toInt ≤ N) (h105554 : (s0.1 14).toInt = 0) (k : ∀ (r : Int32) (u : Md), mb (N) (R) (W) (D) u → ie [1, 2, 6, 7, 8, 9, 10, 11, 12, 13, 14] u.1 s0.1 → (r).toInt = 0 ∨ (r).toInt = 1 → (s0.1 6).toInt ≤ (u.1 6).toInt ∧ (u.1 6).toInt ≤ N → (r).toInt = 0 ∨ (u.1 14).toInt = (s0.1 14).toInt → post r u) : wp_X7_goesAll_4 post s0 x1 := by
  unfold wp_X7_goesAll_4
  have := h105551.1
  have := h105551.2.1
  have := h105551.2.2.1
  have := h105551.2.2.2.1
  have p105555 : 0 < D := by omega
  have p105556 : 0 ≤ (s0.1 6).toInt ∧ (s0.1 6).toInt ≤ N := by omega
  have p105557 : (s0.1 14).toInt = 0 := by omega
  refine wq_X7_goesOne_4 h105551 p105555 p105556 p105557 (fun r_1 u_2 q105558 q105559 q105560 q105561 q105562 => ?_)
  have := q105558.1
  have := q105558.2.1
  refine ⟨fun c105563 => ?_, fun c105564 => ?_⟩
  · replace c105563 := q_neq c105563
    rw [li_0] at c105563
    have p105565 : 0 < D := by omega
    have p105566 : ie [1, 2, 6, 7, 8, 9, 10, 11, 12, 13, 14] u_2.1 u_2.1 := (ie_refl _ _)
    have p105567 : (u_2.1 14).toInt = 0 := by omega
    have p105568 : 0 ≤ ((u_2.1 6).toInt) ∧ ((u_2.1 6).toInt) ≤ (u_2.1 6).toInt ∧ (u_2.1 6).toInt ≤ N := by omega
    obtain ⟨f105569, g105570⟩ := fu_e 500
    have p105571 : N - (u_2.1 6).toInt < (f105569 : Int) := by (omega)
    refine ⟨f105569, wq_X7_goesAll_4_L10 p105565 (fun t0 z1 q105572 q105573 q105574 => ?_) (fun t0 z1 q105575 q105576 q105577 q105578 => ?_) f105569 _ _ q105558 p105566 p105567 p105568 p105571⟩
    · have := q105572.1
      have := q105572.2.1
      have p105579 : ie [1, 2, 6, 7, 8, 9, 10, 11, 12, 13, 14] t0.1 s0.1 := (ie_tr q105573 (by decide) (ie_tr q105559 (by decide) (ie_refl _ _)))
      have p105580 : (0 : Int32).toInt = 0 ∨ (0 : Int32).toInt = 1 := by (have := li_0; omega)
      have p105581 : (s0.1 6).toInt ≤ (t0.1 6).toInt ∧ (t0.1 6).toInt ≤ N := by omega
      have p105582 : (0 : Int32).toInt = 0 ∨ (t0.1 14).toInt = (s0.1 14).toInt := by (have := li_0; omega)
      exact k _ _ q105572 p105579 p105580 p105581 p105582
    · have := q105575.1
      have := q105575.2.1
      have p105583 : ie [1, 2, 6, 7, 8, 9, 10, 11, 12, 13, 14] t0.1 s0.1 := (ie_tr q105576 (by decide) (ie_tr q105559 (by decide) (ie_refl _ _)))
      have p105584 : (1 : Int32).toInt = 0 ∨ (1 : Int32).toInt = 1 := by (have := li_1; omega)
      have p105585 : (s0.1 6).toInt ≤ (t0.1 6).toInt ∧ (t0.1 6).toInt ≤ N := by omega
      have p105586 : (1 : Int32).toInt = 0 ∨ (t0.1 14).toInt = (s0.1 14).toInt := by (have := li_1; omega)
      exact k _ _ q105575 p105583 p105584 p105585 p105586
  · replace c105564 := q_eq c105564
    rw [li_0] at c105564
    have p105587 : ie [1, 2, 6, 7, 8, 9, 10, 11, 12, 13, 14] u_2.1 s0.1 := (ie_tr q105559 (by decide) (ie_refl _ _))
    have p105588 : (0 : Int32).toInt = 0 ∨ (0 : Int32).toInt = 1 := by (have := li_0; omega)
    have p105589 : (s0.1 6).toInt ≤ (u_2.1 6).toInt ∧ (u_2.1 6).toInt ≤ N := by omega
    have p105590 : (0 : Int32).toInt = 0 ∨ (u_2.1 14).toInt = (s0.1 14).toInt := by (have := li_0; omega)
    exact k _ _ q105558 p105587 p105588 p105589 p105590
theorem wq_X7_goesProgram {post : Int32 → Md → Prop} {s0 : Md} {x1 : Int32} {N R W D : Int} (h105591 : mb (N) (R) (W) (D) s0) (h105592 : 0 < D) (k : ∀ (r : Int32) (u : Md), mb (N) (R) (W) (D) u → post r u) : wp_X7_goesProgram post s0 x1 := by
  unfold wp_X7_goesProgram
  have := h105591.1
  have := h105591.2.1
  have := h105591.2.2.1
  have := h105591.2.2.2.1
  have p105593 : (s0.1 5).toInt = N := by omega
  have p105594 : 0 ≤ (s0.1 0).toInt ∧ (s0.1 0).toInt ≤ 10 := by omega
  have p105595 : 0 ≤ N ∧ N ≤ 400 := by omega
  have p105596 : 0 ≤ R ∧ R ≤ 6 ∧ 0 ≤ W ∧ W ≤ 10 ∧ 0 ≤ R * W ∧ R * W ≤ 40 ∧ 0 ≤ D ∧ D ≤ 4 ∧ (D ≤ 0 ∨ 1 ≤ R) ∧ (1 ≤ R ∨ R * W = 0) := by omega
  have B105597 : mb (N) (R) (W) (D) ((va_up (va_up (va_up s0.1 6 0) 13 0) 14 0), s0.2.1, s0.2.2.1, s0.2.2.2) := ⟨p105593, p105594, p105595, p105596, h105591.2.2.2.2.1, h105591.2.2.2.2.2.1, h105591.2.2.2.2.2.2.1, h105591.2.2.2.2.2.2.2⟩
  have p105598 : 0 < D := by omega
  have p105599 : 0 ≤ (0 : Int32).toInt ∧ (0 : Int32).toInt ≤ N := by (have := li_0; omega)
  have p105600 : (0 : Int32).toInt = 0 := by (have := li_0; omega)
  refine wq_X7_goesAll_4 B105597 p105598 p105599 p105600 (fun r_1 u_2 q105601 q105602 q105603 q105604 q105605 => ?_)
  have := q105601.1
  have := q105601.2.1
  replace q105603 : (r_1).toInt = 0 ∨ (r_1).toInt = 1 := q105603
  replace q105604 : (0 : Int32).toInt ≤ (u_2.1 6).toInt ∧ (u_2.1 6).toInt ≤ N := q105604
  try simp only [li_0] at q105604
  replace q105605 : (r_1).toInt = 0 ∨ (u_2.1 14).toInt = (0 : Int32).toInt := q105605
  try simp only [li_0] at q105605
  refine ⟨fun c105606 => ?_, fun c105607 => ?_⟩
  · replace c105606 := q_neq c105606
    rw [li_0] at c105606
    have p105608 : 0 ≤ (u_2.1 6).toInt ∧ (u_2.1 6).toInt ≤ N := by omega
    refine wq_X7_nextByte q105601 p105608 (fun r_4 u_5 q105609 q105610 q105611 q105612 q105613 q105614 => ?_)
    have := q105609.1
    have := q105609.2.1
    refine ⟨fun c105615 => ?_, fun c105616 => ?_⟩
    · replace c105615 := q_eq c105615
      rw [li_m1] at c105615
      exact k _ _ q105609
    · replace c105616 := q_neq c105616
      rw [li_m1] at c105616
      refine wq_X7_fails q105609 (fun r_7 u_8 q105617 q105618 q105619 q105620 => ?_)
      have := q105617.1
      have := q105617.2.1
      refine ⟨fun c105621 => ?_, fun c105622 => ?_⟩
      · replace c105621 := q_eq c105621
        rw [li_0] at c105621
        exact k _ _ q105617
      · replace c105622 := q_neq c105622
        rw [li_0] at c105622
        exact k _ _ q105617
  · replace c105607 := q_eq c105607
    rw [li_0] at c105607
    exact k _ _ q105601
theorem wq_X7_run {post : Int32 → Md → Prop} {s0 : Md} {N R W D : Int} (h105623 : mb (N) (R) (W) (D) s0) (h105624 : R ≤ 0 ∨ 0 < D) (k : ∀ (r : Int32) (u : Md), mb ((0 : Int)) (R) (W) (D) u → post r u) : wp_X7_run post s0 := by
  unfold wp_X7_run
  have := h105623.1
  have := h105623.2.1
  have := h105623.2.2.1
  have := h105623.2.2.2.1
  refine wq_X7_isBoard h105623 (fun r_1 q105625 => ?_)
  refine ⟨fun c105626 => ?_, fun c105627 => ?_⟩
  · replace c105626 := q_eq c105626
    rw [li_0] at c105626
    have p105628 : (0 : Int32).toInt = (0 : Int) := by (have := li_0; omega)
    have p105629 : 0 ≤ (s0.1 0).toInt ∧ (s0.1 0).toInt ≤ 10 := by omega
    have p105630 : 0 ≤ (0 : Int) ∧ (0 : Int) ≤ 400 := by omega
    have p105631 : 0 ≤ R ∧ R ≤ 6 ∧ 0 ≤ W ∧ W ≤ 10 ∧ 0 ≤ R * W ∧ R * W ≤ 40 ∧ 0 ≤ D ∧ D ≤ 4 ∧ (D ≤ 0 ∨ 1 ≤ R) ∧ (1 ≤ R ∨ R * W = 0) := by omega
    have B105632 : mb ((0 : Int)) (R) (W) (D) ((va_up s0.1 5 0), s0.2.1, s0.2.2.1, s0.2.2.2) := ⟨p105628, p105629, p105630, p105631, h105623.2.2.2.2.1, h105623.2.2.2.2.2.1, h105623.2.2.2.2.2.2.1, h105623.2.2.2.2.2.2.2⟩
    refine wq_X7_isBoard B105632 (fun r_4 q105633 => ?_)
    replace q105633 : ((r_4).toInt = 1 ∧ 0 < D) ∨ ((r_4).toInt = 0 ∧ D ≤ 0) := q105633
    refine ⟨fun c105634 => ?_, fun c105635 => ?_⟩
    · replace c105634 := q_neq c105634
      rw [li_0] at c105634
      exact k _ _ B105632
    · replace c105635 := q_eq c105635
      rw [li_0] at c105635
      exact k _ _ B105632
  · replace c105627 := q_neq c105627
    rw [li_0] at c105627
    have p105636 : 0 < D := by omega
    refine wq_X7_goesProgram h105623 p105636 (fun r_7 u_8 q105637 => ?_)
    have := q105637.1
    have := q105637.2.1
    refine ⟨fun c105638 => ?_, fun c105639 => ?_⟩
    · replace c105638 := q_eq c105638
      rw [li_0] at c105638
      have p105640 : (0 : Int32).toInt = (0 : Int) := by (have := li_0; omega)
      have p105641 : 0 ≤ (u_8.1 0).toInt ∧ (u_8.1 0).toInt ≤ 10 := by omega
      have p105642 : 0 ≤ (0 : Int) ∧ (0 : Int) ≤ 400 := by omega
      have p105643 : 0 ≤ R ∧ R ≤ 6 ∧ 0 ≤ W ∧ W ≤ 10 ∧ 0 ≤ R * W ∧ R * W ≤ 40 ∧ 0 ≤ D ∧ D ≤ 4 ∧ (D ≤ 0 ∨ 1 ≤ R) ∧ (1 ≤ R ∨ R * W = 0) := by omega
      have B105644 : mb ((0 : Int)) (R) (W) (D) ((va_up u_8.1 5 0), u_8.2.1, u_8.2.2.1, u_8.2.2.2) := ⟨p105640, p105641, p105642, p105643, q105637.2.2.2.2.1, q105637.2.2.2.2.2.1, q105637.2.2.2.2.2.2.1, q105637.2.2.2.2.2.2.2⟩
      refine wq_X7_isBoard B105644 (fun r_10 q105645 => ?_)
      replace q105645 : ((r_10).toInt = 1 ∧ 0 < D) ∨ ((r_10).toInt = 0 ∧ D ≤ 0) := q105645
      refine ⟨fun c105646 => ?_, fun c105647 => ?_⟩
      · replace c105646 := q_neq c105646
        rw [li_0] at c105646
        exact k _ _ B105644
      · replace c105647 := q_eq c105647
        rw [li_0] at c105647
        exact k _ _ B105644
    · replace c105639 := q_neq c105639
      rw [li_0] at c105639
      have p105648 : R ≤ 0 ∨ 0 < D := by omega
      refine wq_X7_keepsAct q105637 p105648 (fun u_14 q105649 q105650 q105651 => ?_)
      have := q105649.1
      have := q105649.2.1
      have p105652 : 0 < D := by omega
      refine wq_X7_goesProgram q105649 p105652 (fun r_15 u_16 q105653 => ?_)
      have := q105653.1
      have := q105653.2.1
      have p105654 : (0 : Int32).toInt = (0 : Int) := by (have := li_0; omega)
      have p105655 : 0 ≤ (u_16.1 0).toInt ∧ (u_16.1 0).toInt ≤ 10 := by omega
      have p105656 : 0 ≤ (0 : Int) ∧ (0 : Int) ≤ 400 := by omega
      have p105657 : 0 ≤ R ∧ R ≤ 6 ∧ 0 ≤ W ∧ W ≤ 10 ∧ 0 ≤ R * W ∧ R * W ≤ 40 ∧ 0 ≤ D ∧ D ≤ 4 ∧ (D ≤ 0 ∨ 1 ≤ R) ∧ (1 ≤ R ∨ R * W = 0) := by omega
      have B105658 : mb ((0 : Int)) (R) (W) (D) ((va_up u_16.1 5 0), u_16.2.1, u_16.2.2.1, u_16.2.2.2) := ⟨p105654, p105655, p105656, p105657, q105653.2.2.2.2.1, q105653.2.2.2.2.2.1, q105653.2.2.2.2.2.2.1, q105653.2.2.2.2.2.2.2⟩
      refine wq_X7_isBoard B105658 (fun r_17 q105659 => ?_)
      replace q105659 : ((r_17).toInt = 1 ∧ 0 < D) ∨ ((r_17).toInt = 0 ∧ D ≤ 0) := q105659
      refine ⟨fun c105660 => ?_, fun c105661 => ?_⟩
      · replace c105660 := q_neq c105660
        rw [li_0] at c105660
        refine ⟨fun c105662 => ?_, fun c105663 => ?_⟩
        · replace c105662 := q_eq c105662
          rw [li_0] at c105662
          exact k _ _ B105658
        · replace c105663 := q_neq c105663
          rw [li_0] at c105663
          exact k _ _ B105658
      · replace c105661 := q_eq c105661
        rw [li_0] at c105661
        exact k _ _ B105658

/-! Calls by permutation: a long answer; what a reader needs. -/
section RC
variable {p : Program} {l : Launch} {e : Env} {R : Room} {s : State} {m : MethodId} {args : Array Value} {below : List Frame} {meth : Method} {c : Code} {H : Heap} {locs : List Loc} {cells slots : Nat} {Q : State → Prop}
variable {pc : Nat} {ls : Array Slot} {rest st : List Value} {D : va_G} {ws wc wr : va_W} {A : Nat → Prop} {H0 : Heap}
theorem mt_golR {S : Type} {post : Int64 → S → Prop} {w2 : S → va_W} {mc ms : Nat} {av : Array Value} (hp : List.Perm ws (wc ++ wr)) (hr : va_Run p l e R s m args below meth c H locs cells slots mc ms (F0 m pc ls st) rest (va_Ql post (mt_B D wc H.size w2) (va_A wc H.size) av) (va_A wc H.size)) (hP : va_P D vwCl ws H) (hD : va_D A ws) (hS : va_S A H0 H locs) (hA : ∀ x : Nat, H0.size ≤ x → A x)
    (kk : ∀ (r : Int64) (u : S) (H1 : Heap) (locs1 : List Loc), post r u → va_P D vwCl (w2 u ++ wr) H1 → va_D A (w2 u ++ wr) → va_S A H0 H1 locs1 → W p l e R s m args below meth c H1 locs1 (cells + mc) (slots + ms) Q (F0 m (pc + 3) ls (.long r :: rest))) : W p l e R s m args below meth c H locs cells slots Q (F0 m pc ls st) := by
  have hF := fr_R hp hD hS hA
  refine va_calll hr hS (fun x _ h => hF x h) hF (fun r u t H1 locs1 ht hvm hw hB hz1 hk1 hS1 => ?_)
  obtain ⟨hP1, hD1⟩ := hB
  rw [ht] at hP1
  obtain ⟨hP2, hD2⟩ := jn_perm hp hP hD hk1 hF hP1 hD1
  exact kk r u H1 locs1 hw hP2 hD2 hS1
end RC
/-- the callee's cells out of ours -/
theorem pp_l {D : va_G} {cl : List vw_C} {ws x y : va_W} {H : Heap} (hp : List.Perm ws (x ++ y)) (h : va_P D cl ws H) : va_P D cl x H := vp_iff.mpr (fun z hz => vp_iff.mp h z (hp.mem_iff.mpr (List.mem_append_left _ hz)))
theorem pp_d {A : Nat → Prop} {ws x y : va_W} (hp : List.Perm ws (x ++ y)) (h : va_D A ws) : va_D A x := by
  have h1 := vd_iff.mp (vd_perm hp h)
  rw [List.map_append, List.nodup_append] at h1
  exact vd_iff.mpr ⟨h1.1.1, fun z hz => h1.2 z (List.mem_append_left _ hz)⟩

/-! The class's whole world as blocks; what holds of it between two calls; the same of the reference. -/
def cb_l (q : Nat → ClassId) (a0 a1 a2 a3 a4 a5 : Nat → Nat) (p8 s8 p9 : Nat) (AA BB : Nat → Nat → Nat) (s1 : Tp) (s2 s3 : Bd) (s4 : Mo) (s5 : Pg) (s6 : Pa) (z7 : Nat → Option Bd) : List va_W := [fo_w (a0 0) (a1 0) (a2 0) (a3 0) (a4 0) (a5 0) p8 s8, tp_w a1 q s1, bd_w a2 q s2, bd_w a3 q s3, mo_w a4 q s4, pg_w a5 q s5, pa_o p8 p9 s6, pa_r p9 q 10 AA s6.2, ps_w q 10 AA s6.2, pa_r s8 q 2 BB z7, ps_w q 2 BB z7]
def bx (s : Bd) : Prop := ∃ R W, bi R W s
def cs_ok (N : Int) (s1 : Tp) (s2 s3 : Bd) (s4 : Mo) (s5 : Pg) (s6 : Pa) (z7 : Nat → Option Bd) : Prop := tz N s1 ∧ bx s2 ∧ bx s3 ∧ mo s4 ∧ pz s5 ∧ pa s6 ∧ (∀ k, ob (z7 k))
/-- a method that writes, seen from its object: what it needs of the world, what it leaves -/
def un_i (l : Launch) (D : va_G) (q : Nat → ClassId) (ci : Nat) (y : MethodName) (bytes : ByteArray) (maxL : Nat) (ret : Option FieldType) (rm : Room) (h : Nat) (As : List Value) (mc ms : Nat) (w : va_W) (J : Int32 → va_W → Prop) : Prop := ∀ sz : Nat, ∃ (S : Type) (wc wr : va_W) (w2 : S → va_W) (post : Int32 → S → Prop) (fs : List Value), Met l y (Cond.code y bytes maxL ret :: w_all) rm (mt_P D q (.ref h :: As) wc sz) (va_Qi post (mt_B D wc sz w2) (va_A wc sz)) mc ms (va_A wc sz) ∧ wc[0]? = some (h, .inr (ci, fs)) ∧ List.Perm w (wc ++ wr) ∧ (∀ r u, post r u → ∃ w3, J r w3 ∧ List.Perm (w2 u ++ wr) w3)
def un_l (l : Launch) (D : va_G) (q : Nat → ClassId) (ci : Nat) (y : MethodName) (bytes : ByteArray) (maxL : Nat) (ret : Option FieldType) (rm : Room) (h : Nat) (As : List Value) (mc ms : Nat) (w : va_W) (J : Int64 → va_W → Prop) : Prop := ∀ sz : Nat, ∃ (S : Type) (wc wr : va_W) (w2 : S → va_W) (post : Int64 → S → Prop) (fs : List Value), Met l y (Cond.code y bytes maxL ret :: w_all) rm (mt_P D q (.ref h :: As) wc sz) (va_Ql post (mt_B D wc sz w2) (va_A wc sz)) mc ms (va_A wc sz) ∧ wc[0]? = some (h, .inr (ci, fs)) ∧ List.Perm w (wc ++ wr) ∧ (∀ r u, post r u → ∃ w3, J r w3 ∧ List.Perm (w2 u ++ wr) w3)
/-- one that only reads -/
def un_ri (l : Launch) (D : va_G) (q : Nat → ClassId) (ci : Nat) (y : MethodName) (bytes : ByteArray) (maxL : Nat) (ret : Option FieldType) (rm : Room) (h : Nat) (As : List Value) (w : va_W) (J : Int32 → Prop) : Prop := ∃ (wc wr : va_W) (fs : List Value), Met l y (Cond.code y bytes maxL ret :: w_all) rm (rd_P D q (.ref h :: As) wc) (vp_Si J) 0 0 (fun _ => False) ∧ wc[0]? = some (h, .inr (ci, fs)) ∧ List.Perm w (wc ++ wr)
def un_rl (l : Launch) (D : va_G) (q : Nat → ClassId) (ci : Nat) (y : MethodName) (bytes : ByteArray) (maxL : Nat) (ret : Option FieldType) (rm : Room) (h : Nat) (As : List Value) (w : va_W) (J : Int64 → Prop) : Prop := ∃ (wc wr : va_W) (fs : List Value), Met l y (Cond.code y bytes maxL ret :: w_all) rm (rd_P D q (.ref h :: As) wc) (vp_Sl J) 0 0 (fun _ => False) ∧ wc[0]? = some (h, .inr (ci, fs)) ∧ List.Perm w (wc ++ wr)
section UN
variable {p : Program} {l : Launch} {e : Env} {R : Room} {s : State} {m : MethodId} {args : Array Value} {below : List Frame} {meth : Method} {c : Code} {H : Heap} {locs : List Loc} {cells slots : Nat} {Q : State → Prop}
variable {cc : ByteArray} {pc nL : Nat} {ls : Array Slot} {rest st : List Value} {D : va_G} {q : Nat → ClassId} {A : Nat → Prop}
variable {y : MethodName} {bytes : ByteArray} {maxL n mc ms : Nat} {ret : Option FieldType} {rm : Room} {own : String} {index : Nat} {As : List Value} {b ci : Nat} {T : u_T} {N : Nat}
/-- the law's row for such a call: our world is the object's beside another's -/
theorem un_goi {w wo ws : va_W} {J : Int32 → va_W → Prop} (hU : un_i l D q ci y bytes maxL ret rm b As mc ms w J) (hws : List.Perm ws (w ++ wo)) (hx : p.tables.exec = Jvm.exec) (hb : c.code = cc) (hml : c.maxLocals = nL) (hown : s.vm.findClass own = some m.cls) (ht : ∀ w ∈ w_all, w.before args s = true) (wy : wd_V y bytes maxL ret n) (hl : Cond.methodLink own index y ∈ w_all) (hQ : kn D q s) (hV : sv q A s s.heap) (hS : va_S A s.heap H locs) (hA : ∀ x : Nat, s.heap.size ≤ x → A x) (hP : va_P D vwCl ws H) (hD : va_D A ws) (hc : vwCl[ci]? = some (y.cls, T, N)) (hn : As.length = n) (hz : ls.size = nL) (hst : st = As.reverse ++ .ref b :: rest) (hW : (rest.map fun v => v.category).sum ≤ 8) (hdg : decode cc pc = .ok (.invokevirtual index, 3)) (hR : rm.frames + 1 ≤ R.frames ∧ 8 + (maxL + 11) + rm.locals ≤ R.locals ∧ rm.cells = mc ∧ rm.slots = ms) (hcs : cells + mc ≤ R.cells ∧ slots + ms ≤ R.slots)
    (kk : ∀ (r : Int32) (w3 : va_W) (H1 : Heap) (locs1 : List Loc), J r w3 → va_P D vwCl (w3 ++ wo) H1 → va_D A (w3 ++ wo) → va_S A s.heap H1 locs1 → W p l e R s m args below meth c H1 locs1 (cells + mc) (slots + ms) Q (F0 m (pc + 3) ls (.int r :: rest))) : W p l e R s m args below meth c H locs cells slots Q (F0 m pc ls st) := by
  obtain ⟨S, wc, wr, w2, post, fs, hM, he, hp, hj⟩ := hU H.size
  have hp2 : List.Perm ws (wc ++ (wr ++ wo)) := hws.trans (by
    rw [← List.append_assoc]
    exact hp.append_right wo)
  refine mt_goiR hp2 (mt_wV hx hb hml hown ht hM wy hl hQ hV hS hA (pp_l hp2 hP) (pp_d hp2 hD) he hc hn hz hst hW hdg hR hcs) hP hD hS hA (fun r u H1 locs1 hw hP1 hD1 hS1 => ?_)
  obtain ⟨w3, hJ, hq⟩ := hj r u hw
  have hp3 : List.Perm (w2 u ++ (wr ++ wo)) (w3 ++ wo) := by
    rw [← List.append_assoc]
    exact hq.append_right wo
  exact kk r w3 H1 locs1 hJ (vp_perm hp3 hP1) (vd_perm hp3 hD1) hS1
theorem un_gol {w wo ws : va_W} {J : Int64 → va_W → Prop} (hU : un_l l D q ci y bytes maxL ret rm b As mc ms w J) (hws : List.Perm ws (w ++ wo)) (hx : p.tables.exec = Jvm.exec) (hb : c.code = cc) (hml : c.maxLocals = nL) (hown : s.vm.findClass own = some m.cls) (ht : ∀ w ∈ w_all, w.before args s = true) (wy : wd_V y bytes maxL ret n) (hl : Cond.methodLink own index y ∈ w_all) (hQ : kn D q s) (hV : sv q A s s.heap) (hS : va_S A s.heap H locs) (hA : ∀ x : Nat, s.heap.size ≤ x → A x) (hP : va_P D vwCl ws H) (hD : va_D A ws) (hc : vwCl[ci]? = some (y.cls, T, N)) (hn : As.length = n) (hz : ls.size = nL) (hst : st = As.reverse ++ .ref b :: rest) (hW : (rest.map fun v => v.category).sum ≤ 8) (hdg : decode cc pc = .ok (.invokevirtual index, 3)) (hR : rm.frames + 1 ≤ R.frames ∧ 8 + (maxL + 11) + rm.locals ≤ R.locals ∧ rm.cells = mc ∧ rm.slots = ms) (hcs : cells + mc ≤ R.cells ∧ slots + ms ≤ R.slots)
    (kk : ∀ (r : Int64) (w3 : va_W) (H1 : Heap) (locs1 : List Loc), J r w3 → va_P D vwCl (w3 ++ wo) H1 → va_D A (w3 ++ wo) → va_S A s.heap H1 locs1 → W p l e R s m args below meth c H1 locs1 (cells + mc) (slots + ms) Q (F0 m (pc + 3) ls (.long r :: rest))) : W p l e R s m args below meth c H locs cells slots Q (F0 m pc ls st) := by
  obtain ⟨S, wc, wr, w2, post, fs, hM, he, hp, hj⟩ := hU H.size
  have hp2 : List.Perm ws (wc ++ (wr ++ wo)) := hws.trans (by
    rw [← List.append_assoc]
    exact hp.append_right wo)
  refine mt_golR hp2 (mt_wV hx hb hml hown ht hM wy hl hQ hV hS hA (pp_l hp2 hP) (pp_d hp2 hD) he hc hn hz hst hW hdg hR hcs) hP hD hS hA (fun r u H1 locs1 hw hP1 hD1 hS1 => ?_)
  obtain ⟨w3, hJ, hq⟩ := hj r u hw
  have hp3 : List.Perm (w2 u ++ (wr ++ wo)) (w3 ++ wo) := by
    rw [← List.append_assoc]
    exact hq.append_right wo
  exact kk r w3 H1 locs1 hJ (vp_perm hp3 hP1) (vd_perm hp3 hD1) hS1
theorem un_gori {w wo ws : va_W} {J : Int32 → Prop} (hU : un_ri l D q ci y bytes maxL ret rm b As w J) (hws : List.Perm ws (w ++ wo)) (hx : p.tables.exec = Jvm.exec) (hb : c.code = cc) (hml : c.maxLocals = nL) (hown : s.vm.findClass own = some m.cls) (ht : ∀ w ∈ w_all, w.before args s = true) (wy : wd_V y bytes maxL ret n) (hl : Cond.methodLink own index y ∈ w_all) (hQ : kn D q s) (hV : sv q A s s.heap) (hS : va_S A s.heap H locs) (hP : va_P D vwCl ws H) (hc : vwCl[ci]? = some (y.cls, T, N)) (hn : As.length = n) (hz : ls.size = nL) (hst : st = As.reverse ++ .ref b :: rest) (hW : (rest.map fun v => v.category).sum ≤ 8) (hdg : decode cc pc = .ok (.invokevirtual index, 3)) (hR : rm.frames + 1 ≤ R.frames ∧ 8 + (maxL + 11) + rm.locals ≤ R.locals ∧ rm.cells = 0 ∧ rm.slots = 0) (hcs : cells ≤ R.cells ∧ slots ≤ R.slots)
    (kk : ∀ (r : Int32), J r → W p l e R s m args below meth c H locs cells slots Q (F0 m (pc + 3) ls (.int r :: rest))) : W p l e R s m args below meth c H locs cells slots Q (F0 m pc ls st) := by
  obtain ⟨wc, wr, fs, hM, he, hp⟩ := hU
  have hp2 : List.Perm ws (wc ++ (wr ++ wo)) := hws.trans (by
    rw [← List.append_assoc]
    exact hp.append_right wo)
  exact vp_callSi (rd_wV hx hb hml hown ht hM wy hl hQ hV hS (pp_l hp2 hP) he hc hn hz hst hW hdg hR hcs) (fun r h => kk r h)
theorem un_gorl {w wo ws : va_W} {J : Int64 → Prop} (hU : un_rl l D q ci y bytes maxL ret rm b As w J) (hws : List.Perm ws (w ++ wo)) (hx : p.tables.exec = Jvm.exec) (hb : c.code = cc) (hml : c.maxLocals = nL) (hown : s.vm.findClass own = some m.cls) (ht : ∀ w ∈ w_all, w.before args s = true) (wy : wd_V y bytes maxL ret n) (hl : Cond.methodLink own index y ∈ w_all) (hQ : kn D q s) (hV : sv q A s s.heap) (hS : va_S A s.heap H locs) (hP : va_P D vwCl ws H) (hc : vwCl[ci]? = some (y.cls, T, N)) (hn : As.length = n) (hz : ls.size = nL) (hst : st = As.reverse ++ .ref b :: rest) (hW : (rest.map fun v => v.category).sum ≤ 8) (hdg : decode cc pc = .ok (.invokevirtual index, 3)) (hR : rm.frames + 1 ≤ R.frames ∧ 8 + (maxL + 11) + rm.locals ≤ R.locals ∧ rm.cells = 0 ∧ rm.slots = 0) (hcs : cells ≤ R.cells ∧ slots ≤ R.slots)
    (kk : ∀ (r : Int64), J r → W p l e R s m args below meth c H locs cells slots Q (F0 m (pc + 3) ls (.long r :: rest))) : W p l e R s m args below meth c H locs cells slots Q (F0 m pc ls st) := by
  obtain ⟨wc, wr, fs, hM, he, hp⟩ := hU
  have hp2 : List.Perm ws (wc ++ (wr ++ wo)) := hws.trans (by
    rw [← List.append_assoc]
    exact hp.append_right wo)
  exact vp_callSl (rd_wV hx hb hml hown ht hM wy hl hQ hV hS (pp_l hp2 hP) he hc hn hz hst hW hdg hR hcs) (fun r h => kk r h)
end UN

def fb_w (a : Nat → Nat) (q : Nat → ClassId) : va_W := [((a 0), .inr (5, [.ref (a 1), .ref (a 3), .ref (a 16), .ref (a 29), .ref (a 33), .ref (a 41), .ref (a 43)])), ((a 1), .inr (4, [.ref (a 2), .int 0, .int 0, .int 0, .int 0, .int 0, .int 0])), ((a 2), .inl (q 0, 400, .inl (fun _ => 0))), ((a 3), .inr (0, [.int 0, .int 0, .int 0, .int 0, .int 0, .int 0, .ref (a 4), .ref (a 5), .ref (a 6), .ref (a 7), .ref (a 8), .ref (a 9), .ref (a 10), .ref (a 11), .ref (a 12), .ref (a 13), .ref (a 14), .ref (a 15)])), ((a 4), .inl (q 0, 4, .inl (fun _ => 0))), ((a 5), .inl (q 0, 4, .inl (fun _ => 0))), ((a 6), .inl (q 0, 160, .inl (fun _ => 0))), ((a 7), .inl (q 0, 40, .inl (fun _ => 0))), ((a 8), .inl (q 0, 40, .inl (fun _ => 0))), ((a 9), .inl (q 0, 40, .inl (fun _ => 0))), ((a 10), .inl (q 0, 40, .inl (fun _ => 0))), ((a 11), .inl (q 0, 40, .inl (fun _ => 0))), ((a 12), .inl (q 0, 40, .inl (fun _ => 0))), ((a 13), .inl (q 0, 40, .inl (fun _ => 0))), ((a 14), .inl (q 1, 40, .inr (.inl (fun _ => 0)))), ((a 15), .inl (q 0, 0, .inl (fun _ => 0))), ((a 16), .inr (0, [.int 0, .int 0, .int 0, .int 0, .int 0, .int 0, .ref (a 17), .ref (a 18), .ref (a 19), .ref (a 20), .ref (a 21), .ref (a 22), .ref (a 23), .ref (a 24), .ref (a 25), .ref (a 26), .ref (a 27), .ref (a 28)])), ((a 17), .inl (q 0, 4, .inl (fun _ => 0))), ((a 18), .inl (q 0, 4, .inl (fun _ => 0))), ((a 19), .inl (q 0, 160, .inl (fun _ => 0))), ((a 20), .inl (q 0, 40, .inl (fun _ => 0))), ((a 21), .inl (q 0, 40, .inl (fun _ => 0))), ((a 22), .inl (q 0, 40, .inl (fun _ => 0))), ((a 23), .inl (q 0, 40, .inl (fun _ => 0))), ((a 24), .inl (q 0, 40, .inl (fun _ => 0))), ((a 25), .inl (q 0, 40, .inl (fun _ => 0))), ((a 26), .inl (q 0, 40, .inl (fun _ => 0))), ((a 27), .inl (q 1, 40, .inr (.inl (fun _ => 0)))), ((a 28), .inl (q 0, 0, .inl (fun _ => 0))), ((a 29), .inr (1, [.ref (a 30), .ref (a 31), .ref (a 32), .int 0, .int 0, .int 0, .int 0, .int 0, .int 0, .int 0, .int 0, .int 0])), ((a 30), .inl (q 0, 40, .inl (fun _ => 0))), ((a 31), .inl (q 0, 40, .inl (fun _ => 0))), ((a 32), .inl (q 0, 40, .inl (fun _ => 0))), ((a 33), .inr (3, [.ref (a 34), .ref (a 35), .ref (a 36), .ref (a 37), .ref (a 38), .ref (a 39), .ref (a 40), .int 0, .int 0, .int 0])), ((a 34), .inl (q 0, 80, .inl (fun _ => 0))), ((a 35), .inl (q 0, 80, .inl (fun _ => 0))), ((a 36), .inl (q 0, 80, .inl (fun _ => 0))), ((a 37), .inl (q 0, 80, .inl (fun _ => 0))), ((a 38), .inl (q 0, 80, .inl (fun _ => 0))), ((a 39), .inl (q 0, 3, .inl (fun _ => 0))), ((a 40), .inl (q 0, 3, .inl (fun _ => 0))), ((a 41), .inr (2, [.ref (a 42), .int 0, .int 0])), ((a 42), .inl (q 4, 10, .inr (.inr (.inr (.inr (fun _ => none)))))), ((a 43), .inl (q 4, 2, .inr (.inr (.inr (.inr (fun _ => none))))))]
def md_w (b : Nat → Nat) (q : Nat → ClassId) : va_W := [((b 0), .inr (6, [.ref (b 1), .ref (b 2), .int 0, .ref (b 3), .ref (b 4), .ref (b 5), .long 0, .int 0, .int 0, .ref (b 6), .int 0, .int 0, .ref (b 7), .int 0, .int 0, .int 0, .int 0, .int 0, .int 0, .int 0, .int 0, .int 0, .int 0])), ((b 1), .inl (q 1, 6896, .inr (.inl (fun _ => 0)))), ((b 2), .inl (q 1, 68960, .inr (.inl (fun _ => 0)))), ((b 3), .inl (q 1, 13792, .inr (.inl (fun _ => 0)))), ((b 4), .inl (q 3, 2, .inl (fun _ => 0))), ((b 5), .inl (q 1, 6896, .inr (.inl (fun _ => 0)))), ((b 6), .inl (q 0, 40, .inl (fun _ => 0))), ((b 7), .inl (q 2, 400, .inl (fun _ => 0)))]
/-- a fresh object -/
theorem fr_ar {n : Nat} {lo hi : Int} (h1 : lo ≤ 0) (h2 : 0 ≤ hi) : ar n lo hi (fun _ => 0) := fun k _ => by
  show lo ≤ (0 : Int32).toInt ∧ (0 : Int32).toInt ≤ hi
  have e : (0 : Int32).toInt = 0 := rfl
  omega

/-! What a wp says, it says of one result: determinism (F and F': the same program, perhaps with other fuel). -/
def dt {O : Type} (F F' : (O → Prop) → Prop) : Prop := ∀ P, F P → ∃ o, P o ∧ (∀ Q : O → Prop, Q o → F Q) ∧ (∀ Q : O → Prop, F' Q → Q o)
section DT
variable {O : Type} {F F' G G' : (O → Prop) → Prop}
theorem dt_r (o : O) : dt (fun P : O → Prop => P o) (fun P : O → Prop => P o) := fun P h => ⟨o, h, fun Q hQ => hQ, fun Q hQ => hQ⟩
theorem dt_F : dt (fun _ : O → Prop => False) F' := fun P h => h.elim
theorem dt_0 (h : dt F F') : dt F (fun _ : O → Prop => False) := fun P g => by
  obtain ⟨o, a, b, c⟩ := h P g
  exact ⟨o, a, b, fun Q hQ => hQ.elim⟩
theorem dt_c {c : Prop} (h : dt F F') : dt (fun P : O → Prop => c ∧ F P) (fun P : O → Prop => c ∧ F' P) := fun P g => by
  obtain ⟨o, a, b, d⟩ := h P g.2
  exact ⟨o, a, fun Q hQ => ⟨g.1, b Q hQ⟩, fun Q hQ => d Q hQ.2⟩
theorem dt_p {c : Prop} (h1 : dt F F') (h2 : dt G G') : dt (fun P : O → Prop => (c → F P) ∧ (¬ c → G P)) (fun P : O → Prop => (c → F' P) ∧ (¬ c → G' P)) := fun P g => by
  by_cases hc : c
  · obtain ⟨o, a, b, d⟩ := h1 P (g.1 hc)
    exact ⟨o, a, fun Q hQ => ⟨fun _ => b Q hQ, fun n => absurd hc n⟩, fun Q hQ => d Q (hQ.1 hc)⟩
  · obtain ⟨o, a, b, d⟩ := h2 P (g.2 hc)
    exact ⟨o, a, fun Q hQ => ⟨fun n => absurd n hc, fun _ => b Q hQ⟩, fun Q hQ => d Q (hQ.2 hc)⟩
theorem dt_n {c : Prop} (h1 : dt F F') (h2 : dt G G') : dt (fun P : O → Prop => (¬ c → F P) ∧ (c → G P)) (fun P : O → Prop => (¬ c → F' P) ∧ (c → G' P)) := fun P g => by
  by_cases hc : c
  · obtain ⟨o, a, b, d⟩ := h2 P (g.2 hc)
    exact ⟨o, a, fun Q hQ => ⟨fun n => absurd hc n, fun _ => b Q hQ⟩, fun Q hQ => d Q (hQ.2 hc)⟩
  · obtain ⟨o, a, b, d⟩ := h1 P (g.1 hc)
    exact ⟨o, a, fun Q hQ => ⟨fun _ => b Q hQ, fun n => absurd n hc⟩, fun Q hQ => d Q (hQ.1 hc)⟩
theorem dt_x {F F' : Nat → (O → Prop) → Prop} (h : ∀ n m, dt (F n) (F' m)) : dt (fun P : O → Prop => ∃ n, F n P) (fun P : O → Prop => ∃ n, F' n P) := fun P g => by
  obtain ⟨n, g⟩ := g
  obtain ⟨o, a, b, d⟩ := h n 0 P g
  refine ⟨o, a, fun Q hQ => ⟨n, b Q hQ⟩, fun Q hQ => ?_⟩
  obtain ⟨m, hQ⟩ := hQ
  obtain ⟨o2, a2, b2, d2⟩ := h n m (fun x => x = o) (b _ rfl)
  exact a2 ▸ d2 Q hQ
theorem dt_b0 {F : Prop → Prop} {G G' : (O → Prop) → Prop} (h : dt (fun P : Unit → Prop => F (P ())) (fun P : Unit → Prop => F (P ()))) (k : dt G G') : dt (fun P : O → Prop => F (G P)) (fun P : O → Prop => F (G' P)) := fun P g => by
  obtain ⟨x, p, q, w⟩ := h (fun _ => G P) g
  obtain ⟨o, a, b, d⟩ := k P p
  exact ⟨o, a, fun Q hQ => q (fun _ => G Q) (b Q hQ), fun Q hQ => d Q (w (fun _ => G' Q) hQ)⟩
theorem dt_b1 {A0 : Type} {F : (A0 → Prop) → Prop} {G G' : A0 → (O → Prop) → Prop} (h : dt (fun P : A0 → Prop => F (fun a0 => P a0)) (fun P : A0 → Prop => F (fun a0 => P a0))) (k : ∀ a0, dt (G a0) (G' a0)) : dt (fun P : O → Prop => F (fun a0 => G a0 P)) (fun P : O → Prop => F (fun a0 => G' a0 P)) := fun P g => by
  obtain ⟨x, p, q, w⟩ := h (fun x => G x P) g
  obtain ⟨o, a, b, d⟩ := k x P p
  exact ⟨o, a, fun Q hQ => q (fun x => G x Q) (b Q hQ), fun Q hQ => d Q (w (fun x => G' x Q) hQ)⟩
theorem dt_b2 {A0 A1 : Type} {F : (A0 → A1 → Prop) → Prop} {G G' : A0 → A1 → (O → Prop) → Prop} (h : dt (fun P : A0 × A1 → Prop => F (fun a0 a1 => P (a0, a1))) (fun P : A0 × A1 → Prop => F (fun a0 a1 => P (a0, a1)))) (k : ∀ a0 a1, dt (G a0 a1) (G' a0 a1)) : dt (fun P : O → Prop => F (fun a0 a1 => G a0 a1 P)) (fun P : O → Prop => F (fun a0 a1 => G' a0 a1 P)) := fun P g => by
  obtain ⟨x, p, q, w⟩ := h (fun x => G x.1 x.2 P) g
  obtain ⟨o, a, b, d⟩ := k x.1 x.2 P p
  exact ⟨o, a, fun Q hQ => q (fun x => G x.1 x.2 Q) (b Q hQ), fun Q hQ => d Q (w (fun x => G' x.1 x.2 Q) hQ)⟩
theorem dt_b3 {A0 A1 A2 : Type} {F : (A0 → A1 → A2 → Prop) → Prop} {G G' : A0 → A1 → A2 → (O → Prop) → Prop} (h : dt (fun P : A0 × A1 × A2 → Prop => F (fun a0 a1 a2 => P (a0, a1, a2))) (fun P : A0 × A1 × A2 → Prop => F (fun a0 a1 a2 => P (a0, a1, a2)))) (k : ∀ a0 a1 a2, dt (G a0 a1 a2) (G' a0 a1 a2)) : dt (fun P : O → Prop => F (fun a0 a1 a2 => G a0 a1 a2 P)) (fun P : O → Prop => F (fun a0 a1 a2 => G' a0 a1 a2 P)) := fun P g => by
  obtain ⟨x, p, q, w⟩ := h (fun x => G x.1 x.2.1 x.2.2 P) g
  obtain ⟨o, a, b, d⟩ := k x.1 x.2.1 x.2.2 P p
  exact ⟨o, a, fun Q hQ => q (fun x => G x.1 x.2.1 x.2.2 Q) (b Q hQ), fun Q hQ => d Q (w (fun x => G' x.1 x.2.1 x.2.2 Q) hQ)⟩
theorem dt_b4 {A0 A1 A2 A3 : Type} {F : (A0 → A1 → A2 → A3 → Prop) → Prop} {G G' : A0 → A1 → A2 → A3 → (O → Prop) → Prop} (h : dt (fun P : A0 × A1 × A2 × A3 → Prop => F (fun a0 a1 a2 a3 => P (a0, a1, a2, a3))) (fun P : A0 × A1 × A2 × A3 → Prop => F (fun a0 a1 a2 a3 => P (a0, a1, a2, a3)))) (k : ∀ a0 a1 a2 a3, dt (G a0 a1 a2 a3) (G' a0 a1 a2 a3)) : dt (fun P : O → Prop => F (fun a0 a1 a2 a3 => G a0 a1 a2 a3 P)) (fun P : O → Prop => F (fun a0 a1 a2 a3 => G' a0 a1 a2 a3 P)) := fun P g => by
  obtain ⟨x, p, q, w⟩ := h (fun x => G x.1 x.2.1 x.2.2.1 x.2.2.2 P) g
  obtain ⟨o, a, b, d⟩ := k x.1 x.2.1 x.2.2.1 x.2.2.2 P p
  exact ⟨o, a, fun Q hQ => q (fun x => G x.1 x.2.1 x.2.2.1 x.2.2.2 Q) (b Q hQ), fun Q hQ => d Q (w (fun x => G' x.1 x.2.1 x.2.2.1 x.2.2.2 Q) hQ)⟩
end DT

set_option maxHeartbeats 4000000 in
theorem dt_J0_coder_7d493 (i0 : Nat) : dt (fun P : Int32 → Prop => wp_J0_coder_7d493 (fun a0 => P a0) i0) (fun P : Int32 → Prop => wp_J0_coder_7d493 (fun a0 => P a0) i0) := by
  unfold wp_J0_coder_7d493
  exact (dt_r _)
set_option maxHeartbeats 4000000 in
theorem dt_J0_length_8abf5 (i0 : Nat) : dt (fun P : Int32 → Prop => wp_J0_length_8abf5 (fun a0 => P a0) i0) (fun P : Int32 → Prop => wp_J0_length_8abf5 (fun a0 => P a0) i0) := by
  unfold wp_J0_length_8abf5
  exact (dt_b1 (F := fun k => wp_J0_coder_7d493 k i0) (dt_J0_coder_7d493 i0) (fun r_1 => (dt_r _)))
set_option maxHeartbeats 4000000 in
theorem dt_J0_isLatin1_aae02 (i0 : Nat) : dt (fun P : Int32 → Prop => wp_J0_isLatin1_aae02 (fun a0 => P a0) i0) (fun P : Int32 → Prop => wp_J0_isLatin1_aae02 (fun a0 => P a0) i0) := by
  unfold wp_J0_isLatin1_aae02
  exact (dt_r _)
set_option maxHeartbeats 4000000 in
theorem dt_J3_checkIndex_8e157_n (x0 : Int32) (x1 : Int32) : dt (fun P : Int32 → Prop => wp_J3_checkIndex_8e157_n (fun a0 => P a0) x0 x1) (fun P : Int32 → Prop => wp_J3_checkIndex_8e157_n (fun a0 => P a0) x0 x1) := by
  unfold wp_J3_checkIndex_8e157_n
  exact (dt_p dt_F (dt_p (dt_r _) dt_F))
set_option maxHeartbeats 4000000 in
theorem dt_J0_checkIndex_df160 (x0 : Int32) (x1 : Int32) : dt (fun P : Unit → Prop => wp_J0_checkIndex_df160 (P ()) x0 x1) (fun P : Unit → Prop => wp_J0_checkIndex_df160 (P ()) x0 x1) := by
  unfold wp_J0_checkIndex_df160
  exact (dt_b1 (F := fun k => wp_J3_checkIndex_8e157_n k x0 x1) (dt_J3_checkIndex_8e157_n x0 x1) (fun r_3 => (dt_r _)))
set_option maxHeartbeats 4000000 in
theorem dt_J1_charAt_3b067 (i0 : Nat) (x1 : Int32) : dt (fun P : Int32 → Prop => wp_J1_charAt_3b067 (fun a0 => P a0) i0 x1) (fun P : Int32 → Prop => wp_J1_charAt_3b067 (fun a0 => P a0) i0 x1) := by
  unfold wp_J1_charAt_3b067
  exact (dt_b0 (F := fun k => wp_J0_checkIndex_df160 k x1 (Int32.ofNat (st_len.getD i0 0))) (dt_J0_checkIndex_df160 x1 (Int32.ofNat (st_len.getD i0 0))) (dt_c (dt_c (dt_r _))))
set_option maxHeartbeats 4000000 in
theorem dt_J0_charAt_5068e (i0 : Nat) (x1 : Int32) : dt (fun P : Int32 → Prop => wp_J0_charAt_5068e (fun a0 => P a0) i0 x1) (fun P : Int32 → Prop => wp_J0_charAt_5068e (fun a0 => P a0) i0 x1) := by
  unfold wp_J0_charAt_5068e
  exact (dt_b1 (F := fun k => wp_J0_isLatin1_aae02 k i0) (dt_J0_isLatin1_aae02 i0) (fun r_1 => (dt_p dt_F (dt_b1 (F := fun k => wp_J1_charAt_3b067 k i0 x1) (dt_J1_charAt_3b067 i0 x1) (fun r_4 => (dt_c (dt_r _)))))))
set_option maxHeartbeats 4000000 in
theorem dt_X0_makeCell (s0 : Bd) (x1 : Int32) (x2 : Int32) : dt (fun P : Bd → Prop => wp_X0_makeCell (fun a0 => P a0) s0 x1 x2) (fun P : Bd → Prop => wp_X0_makeCell (fun a0 => P a0) s0 x1 x2) := by
  unfold wp_X0_makeCell
  exact (dt_c (dt_c (dt_c (dt_c (dt_c (dt_c (dt_c (dt_c (dt_r _)))))))))
set_option maxHeartbeats 4000000 in
theorem dl_X0_clear_L32  {O : Type} {G_post G2_post : Bd → (O → Prop) → Prop} {G_e50 G2_e50 : Bd → Int32 → (O → Prop) → Prop} (h_post : ∀ v0, dt (G_post v0) (G2_post v0)) (h_e50 : ∀ v0 v1, dt (G_e50 v0 v1) (G2_e50 v0 v1)) : ∀ (n m : Nat) (t0 : Bd) (z1 : Int32), dt (fun P : O → Prop => wp_X0_clear_L32 (fun v0 => G_post v0 P) (fun v0 v1 => G_e50 v0 v1 P) n t0 z1) (fun P : O → Prop => wp_X0_clear_L32 (fun v0 => G2_post v0 P) (fun v0 v1 => G2_e50 v0 v1 P) m t0 z1) := by
  intro n
  induction n with
  | zero => exact fun _ _ _ => dt_F
  | succ n32 ih =>
    intro m t0 z1
    have key : ∀ m9 : Nat, dt (fun P : O → Prop => wp_X0_clear_L32 (fun v0 => G_post v0 P) (fun v0 v1 => G_e50 v0 v1 P) (n32 + 1) t0 z1) (fun P : O → Prop => wp_X0_clear_L32 (fun v0 => G2_post v0 P) (fun v0 v1 => G2_e50 v0 v1 P) (m9 + 1) t0 z1) := by
      intro m9
      unfold wp_X0_clear_L32
      exact (dt_p (h_e50 t0 z1) (dt_b1 (F := fun k => wp_X0_makeCell k t0 z1 (0 : Int32)) (dt_X0_makeCell t0 z1 (0 : Int32)) (fun u_3 => (ih m9 u_3 (z1 + 1)))))
    cases m with
    | zero => exact dt_0 (key 0)
    | succ m9 => exact key m9
set_option maxHeartbeats 4000000 in
theorem dt_X0_clear (s0 : Bd) : dt (fun P : Bd → Prop => wp_X0_clear (fun a0 => P a0) s0) (fun P : Bd → Prop => wp_X0_clear (fun a0 => P a0) s0) := by
  unfold wp_X0_clear
  exact (dt_x (fun n32 m_n32 => (dl_X0_clear_L32  (fun v0 => (dt_r _)) (fun t0 z1 => (dt_r _)) n32 m_n32 ((va_up (va_up (va_up (va_up (va_up (va_up s0.1 0 0) 1 0) 2 0) 3 0) 4 0) 5 0), s0.2.1, s0.2.2.1, s0.2.2.2.1, s0.2.2.2.2) 0)))
set_option maxHeartbeats 4000000 in
theorem dt_X0_cells (s0 : Bd) : dt (fun P : Int32 → Prop => wp_X0_cells (fun a0 => P a0) s0) (fun P : Int32 → Prop => wp_X0_cells (fun a0 => P a0) s0) := by
  unfold wp_X0_cells
  exact (dt_r _)
set_option maxHeartbeats 4000000 in
theorem dt_X0_hasCell (s0 : Bd) (x1 : Int32) : dt (fun P : Int32 → Prop => wp_X0_hasCell (fun a0 => P a0) s0 x1) (fun P : Int32 → Prop => wp_X0_hasCell (fun a0 => P a0) s0 x1) := by
  unfold wp_X0_hasCell
  exact (dt_p (dt_r _) (dt_b1 (F := fun k => wp_X0_cells k s0) (dt_X0_cells s0) (fun r_2 => (dt_p (dt_r _) (dt_r _)))))
set_option maxHeartbeats 4000000 in
theorem dt_X0_setLost (s0 : Bd) (x1 : Int32) (x2 : Int32) : dt (fun P : Bd → Prop => wp_X0_setLost (fun a0 => P a0) s0 x1 x2) (fun P : Bd → Prop => wp_X0_setLost (fun a0 => P a0) s0 x1 x2) := by
  unfold wp_X0_setLost
  exact (dt_b1 (F := fun k => wp_X0_hasCell k s0 x1) (dt_X0_hasCell s0 x1) (fun r_1 => (dt_p (dt_r _) (dt_c (dt_r _)))))
set_option maxHeartbeats 4000000 in
theorem dt_X5_byteAt (s0 : Tp) (x1 : Int32) : dt (fun P : Int32 → Prop => wp_X5_byteAt (fun a0 => P a0) s0 x1) (fun P : Int32 → Prop => wp_X5_byteAt (fun a0 => P a0) s0 x1) := by
  unfold wp_X5_byteAt
  exact (dt_p (dt_r _) (dt_p (dt_r _) (dt_c (dt_r _))))
set_option maxHeartbeats 4000000 in
theorem dl_X0_addDrum_L40 (s1 : Tp) {O : Type} {G_post G2_post : Bd → (O → Prop) → Prop} {G_e76 G2_e76 : Bd → Int32 → Int32 → Int32 → Int32 → (O → Prop) → Prop} (h_post : ∀ v0, dt (G_post v0) (G2_post v0)) (h_e76 : ∀ v0 v1 v2 v3 v4, dt (G_e76 v0 v1 v2 v3 v4) (G2_e76 v0 v1 v2 v3 v4)) : ∀ (n m : Nat) (t0 : Bd) (z1 : Int32) (z3 : Int32) (z4 : Int32) (z5 : Int32), dt (fun P : O → Prop => wp_X0_addDrum_L40 s1 (fun v0 => G_post v0 P) (fun v0 v1 v2 v3 v4 => G_e76 v0 v1 v2 v3 v4 P) n t0 z1 z3 z4 z5) (fun P : O → Prop => wp_X0_addDrum_L40 s1 (fun v0 => G2_post v0 P) (fun v0 v1 v2 v3 v4 => G2_e76 v0 v1 v2 v3 v4 P) m t0 z1 z3 z4 z5) := by
  intro n
  induction n with
  | zero => exact fun _ _ _ _ _ _ => dt_F
  | succ n40 ih =>
    intro m t0 z1 z3 z4 z5
    have key : ∀ m9 : Nat, dt (fun P : O → Prop => wp_X0_addDrum_L40 s1 (fun v0 => G_post v0 P) (fun v0 v1 v2 v3 v4 => G_e76 v0 v1 v2 v3 v4 P) (n40 + 1) t0 z1 z3 z4 z5) (fun P : O → Prop => wp_X0_addDrum_L40 s1 (fun v0 => G2_post v0 P) (fun v0 v1 v2 v3 v4 => G2_e76 v0 v1 v2 v3 v4 P) (m9 + 1) t0 z1 z3 z4 z5) := by
      intro m9
      unfold wp_X0_addDrum_L40
      exact (dt_p (h_e76 t0 z1 z3 z4 z5) (dt_b1 (F := fun k => wp_X5_byteAt k s1 (z3 + z5)) (dt_X5_byteAt s1 (z3 + z5)) (fun r_6 => (dt_c (ih m9 (t0.1, (va_up t0.2.1 2 (upd (t0.2.1 2) (Int32.toNatClampNeg (((t0.1 3) * 40) + z5)) r_6)), t0.2.2.1, t0.2.2.2.1, t0.2.2.2.2) z1 z3 z4 (z5 + 1))))))
    cases m with
    | zero => exact dt_0 (key 0)
    | succ m9 => exact key m9
set_option maxHeartbeats 4000000 in
theorem dt_X0_addDrum (s0 : Bd) (s1 : Tp) (x1 : Int32) (x3 : Int32) (x4 : Int32) : dt (fun P : Bd → Prop => wp_X0_addDrum (fun a0 => P a0) s0 s1 x1 x3 x4) (fun P : Bd → Prop => wp_X0_addDrum (fun a0 => P a0) s0 s1 x1 x3 x4) := by
  unfold wp_X0_addDrum
  exact (dt_p (dt_r _) (dt_p (dt_c (dt_c (dt_x (fun n40 m_n40 => (dl_X0_addDrum_L40 s1 (fun v0 => (dt_r _)) (fun t0 z1 z3 z4 z5 => (dt_r _)) n40 m_n40 (s0.1, (va_up (va_up s0.2.1 0 (upd (s0.2.1 0) (Int32.toNatClampNeg (s0.1 3)) x1)) 1 (upd (s0.2.1 1) (Int32.toNatClampNeg (s0.1 3)) x4)), s0.2.2.1, s0.2.2.2.1, s0.2.2.2.2) x1 x3 x4 0))))) (dt_r _)))
set_option maxHeartbeats 4000000 in
theorem dt_X0_copyAllButLog (s0 : Bd) (s1 : Bd) : dt (fun P : Bd → Prop => wp_X0_copyAllButLog (fun a0 => P a0) s0 s1) (fun P : Bd → Prop => wp_X0_copyAllButLog (fun a0 => P a0) s0 s1) := by
  unfold wp_X0_copyAllButLog
  exact (dt_b1 (F := fun k => wp_X0_cells k s1) (dt_X0_cells s1) (fun r_1 => (dt_c (dt_c (dt_c (dt_c (dt_c (dt_c (dt_c (dt_c (dt_c (dt_c (dt_c (dt_c (dt_c (dt_c (dt_c (dt_c (dt_c (dt_c (dt_c (dt_c (dt_c (dt_c (dt_c (dt_c (dt_r _)))))))))))))))))))))))))))
set_option maxHeartbeats 4000000 in
theorem dl_X0_entryStart_L4 (s0 : Bd) {O : Type} {G_post G2_post : Int32 → (O → Prop) → Prop} {G_e39 G2_e39 : Int32 → Int32 → Int32 → (O → Prop) → Prop} (h_post : ∀ v0, dt (G_post v0) (G2_post v0)) (h_e39 : ∀ v0 v1 v2, dt (G_e39 v0 v1 v2) (G2_e39 v0 v1 v2)) : ∀ (n m : Nat) (z1 : Int32) (z2 : Int32) (z3 : Int32), dt (fun P : O → Prop => wp_X0_entryStart_L4 s0 (fun v0 => G_post v0 P) (fun v0 v1 v2 => G_e39 v0 v1 v2 P) n z1 z2 z3) (fun P : O → Prop => wp_X0_entryStart_L4 s0 (fun v0 => G2_post v0 P) (fun v0 v1 v2 => G2_e39 v0 v1 v2 P) m z1 z2 z3) := by
  intro n
  induction n with
  | zero => exact fun _ _ _ _ => dt_F
  | succ n4 ih =>
    intro m z1 z2 z3
    have key : ∀ m9 : Nat, dt (fun P : O → Prop => wp_X0_entryStart_L4 s0 (fun v0 => G_post v0 P) (fun v0 v1 v2 => G_e39 v0 v1 v2 P) (n4 + 1) z1 z2 z3) (fun P : O → Prop => wp_X0_entryStart_L4 s0 (fun v0 => G2_post v0 P) (fun v0 v1 v2 => G2_e39 v0 v1 v2 P) (m9 + 1) z1 z2 z3) := by
      intro m9
      unfold wp_X0_entryStart_L4
      exact (dt_p (h_e39 z1 z2 z3) (dt_p (h_e39 z1 z2 z3) (dt_c (dt_c (ih m9 z1 (z2 + (((s0.2.1 1) (Int32.toNatClampNeg z3)) * ((s0.2.1 1) (Int32.toNatClampNeg z3)))) (z3 + 1))))))
    cases m with
    | zero => exact dt_0 (key 0)
    | succ m9 => exact key m9
set_option maxHeartbeats 4000000 in
theorem dt_X0_entryStart (s0 : Bd) (x1 : Int32) : dt (fun P : Int32 → Prop => wp_X0_entryStart (fun a0 => P a0) s0 x1) (fun P : Int32 → Prop => wp_X0_entryStart (fun a0 => P a0) s0 x1) := by
  unfold wp_X0_entryStart
  exact (dt_x (fun n4 m_n4 => (dl_X0_entryStart_L4 s0 (fun v0 => (dt_r _)) (fun z1 z2 z3 => (dt_r _)) n4 m_n4 x1 0 0)))
set_option maxHeartbeats 4000000 in
theorem dt_X0_entryCount (s0 : Bd) : dt (fun P : Int32 → Prop => wp_X0_entryCount (fun a0 => P a0) s0) (fun P : Int32 → Prop => wp_X0_entryCount (fun a0 => P a0) s0) := by
  unfold wp_X0_entryCount
  exact (dt_b1 (F := fun k => wp_X0_entryStart k s0 (s0.1 3)) (dt_X0_entryStart s0 (s0.1 3)) (fun r_1 => (dt_r _)))
set_option maxHeartbeats 4000000 in
theorem dt_X0_copyAll (s0 : Bd) (s1 : Bd) : dt (fun P : Bd → Prop => wp_X0_copyAll (fun a0 => P a0) s0 s1) (fun P : Bd → Prop => wp_X0_copyAll (fun a0 => P a0) s0 s1) := by
  unfold wp_X0_copyAll
  exact (dt_b1 (F := fun k => wp_X0_copyAllButLog k s0 s1) (dt_X0_copyAllButLog s0 s1) (fun u_2 => (dt_b1 (F := fun k => wp_X0_entryCount k s1) (dt_X0_entryCount s1) (fun r_3 => (dt_p (dt_c (dt_c (dt_c (dt_r _)))) (dt_c (dt_c (dt_c (dt_c (dt_c (dt_r _)))))))))))
set_option maxHeartbeats 4000000 in
theorem dt_X0_isThere (s0 : Bd) : dt (fun P : Int32 → Prop => wp_X0_isThere (fun a0 => P a0) s0) (fun P : Int32 → Prop => wp_X0_isThere (fun a0 => P a0) s0) := by
  unfold wp_X0_isThere
  exact (dt_p (dt_r _) (dt_r _))
set_option maxHeartbeats 4000000 in
theorem dt_X0_hasRow (s0 : Bd) (x1 : Int32) : dt (fun P : Int32 → Prop => wp_X0_hasRow (fun a0 => P a0) s0 x1) (fun P : Int32 → Prop => wp_X0_hasRow (fun a0 => P a0) s0 x1) := by
  unfold wp_X0_hasRow
  exact (dt_p (dt_r _) (dt_p (dt_r _) (dt_r _)))
set_option maxHeartbeats 4000000 in
theorem dt_X0_hasDrum (s0 : Bd) (x1 : Int32) : dt (fun P : Int32 → Prop => wp_X0_hasDrum (fun a0 => P a0) s0 x1) (fun P : Int32 → Prop => wp_X0_hasDrum (fun a0 => P a0) s0 x1) := by
  unfold wp_X0_hasDrum
  exact (dt_p (dt_r _) (dt_p (dt_r _) (dt_r _)))
set_option maxHeartbeats 4000000 in
theorem dt_X0_flapsOf (s0 : Bd) (x1 : Int32) : dt (fun P : Int32 → Prop => wp_X0_flapsOf (fun a0 => P a0) s0 x1) (fun P : Int32 → Prop => wp_X0_flapsOf (fun a0 => P a0) s0 x1) := by
  unfold wp_X0_flapsOf
  exact (dt_c (dt_p (dt_r _) (dt_p (dt_r _) (dt_c (dt_r _)))))
set_option maxHeartbeats 4000000 in
theorem dt_X0_hasFlap (s0 : Bd) (x1 : Int32) (x2 : Int32) : dt (fun P : Int32 → Prop => wp_X0_hasFlap (fun a0 => P a0) s0 x1 x2) (fun P : Int32 → Prop => wp_X0_hasFlap (fun a0 => P a0) s0 x1 x2) := by
  unfold wp_X0_hasFlap
  exact (dt_b1 (F := fun k => wp_X0_hasCell k s0 x1) (dt_X0_hasCell s0 x1) (fun r_1 => (dt_p (dt_r _) (dt_p (dt_r _) (dt_b1 (F := fun k => wp_X0_flapsOf k s0 x1) (dt_X0_flapsOf s0 x1) (fun r_5 => (dt_p (dt_r _) (dt_r _))))))))
set_option maxHeartbeats 4000000 in
theorem dt_X0_flapsOn (s0 : Bd) (x1 : Int32) : dt (fun P : Int32 → Prop => wp_X0_flapsOn (fun a0 => P a0) s0 x1) (fun P : Int32 → Prop => wp_X0_flapsOn (fun a0 => P a0) s0 x1) := by
  unfold wp_X0_flapsOn
  exact (dt_p (dt_r _) (dt_p (dt_r _) (dt_c (dt_r _))))
set_option maxHeartbeats 4000000 in
theorem dt_X0_isMovable (s0 : Bd) (x1 : Int32) (x2 : Int32) : dt (fun P : Int32 → Prop => wp_X0_isMovable (fun a0 => P a0) s0 x1 x2) (fun P : Int32 → Prop => wp_X0_isMovable (fun a0 => P a0) s0 x1 x2) := by
  unfold wp_X0_isMovable
  exact (dt_p (dt_r _) (dt_b1 (F := fun k => wp_X0_flapsOn k s0 x1) (dt_X0_flapsOn s0 x1) (fun r_2 => (dt_p (dt_r _) (dt_r _)))))
set_option maxHeartbeats 4000000 in
theorem dt_X0_currentOf (s0 : Bd) (x1 : Int32) : dt (fun P : Int32 → Prop => wp_X0_currentOf (fun a0 => P a0) s0 x1) (fun P : Int32 → Prop => wp_X0_currentOf (fun a0 => P a0) s0 x1) := by
  unfold wp_X0_currentOf
  exact (dt_c (dt_p (dt_r _) (dt_p (dt_r _) (dt_c (dt_r _)))))
set_option maxHeartbeats 4000000 in
theorem dt_X0_signOf (s0 : Bd) (x1 : Int32) (x2 : Int32) : dt (fun P : Int32 → Prop => wp_X0_signOf (fun a0 => P a0) s0 x1 x2) (fun P : Int32 → Prop => wp_X0_signOf (fun a0 => P a0) s0 x1 x2) := by
  unfold wp_X0_signOf
  exact (dt_p (dt_r _) (dt_p (dt_r _) (dt_p (dt_r _) (dt_c (dt_p (dt_c (dt_r _)) (dt_r _))))))
set_option maxHeartbeats 4000000 in
theorem dt_X0_signOn (s0 : Bd) (x1 : Int32) (x2 : Int32) : dt (fun P : Int32 → Prop => wp_X0_signOn (fun a0 => P a0) s0 x1 x2) (fun P : Int32 → Prop => wp_X0_signOn (fun a0 => P a0) s0 x1 x2) := by
  unfold wp_X0_signOn
  exact (dt_c (dt_b1 (F := fun k => wp_X0_signOf k s0 ((s0.2.1 3) (Int32.toNatClampNeg x1)) x2) (dt_X0_signOf s0 ((s0.2.1 3) (Int32.toNatClampNeg x1)) x2) (fun r_2 => (dt_r _))))
set_option maxHeartbeats 4000000 in
theorem dt_X0_wantedSign (s0 : Bd) (x1 : Int32) : dt (fun P : Int32 → Prop => wp_X0_wantedSign (fun a0 => P a0) s0 x1) (fun P : Int32 → Prop => wp_X0_wantedSign (fun a0 => P a0) s0 x1) := by
  unfold wp_X0_wantedSign
  exact (dt_c (dt_b1 (F := fun k => wp_X0_signOn k s0 x1 ((s0.2.1 6) (Int32.toNatClampNeg x1))) (dt_X0_signOn s0 x1 ((s0.2.1 6) (Int32.toNatClampNeg x1))) (fun r_2 => (dt_r _))))
set_option maxHeartbeats 4000000 in
theorem dt_X0_showsWrong (s0 : Bd) (x1 : Int32) : dt (fun P : Int32 → Prop => wp_X0_showsWrong (fun a0 => P a0) s0 x1) (fun P : Int32 → Prop => wp_X0_showsWrong (fun a0 => P a0) s0 x1) := by
  unfold wp_X0_showsWrong
  exact (dt_c (dt_b1 (F := fun k => wp_X0_signOn k s0 x1 ((s0.2.1 4) (Int32.toNatClampNeg x1))) (dt_X0_signOn s0 x1 ((s0.2.1 4) (Int32.toNatClampNeg x1))) (fun r_2 => (dt_b1 (F := fun k => wp_X0_wantedSign k s0 x1) (dt_X0_wantedSign s0 x1) (fun r_4 => (dt_p (dt_r _) (dt_r _)))))))
set_option maxHeartbeats 4000000 in
theorem dl_X0_wrongCount_L4 (s0 : Bd) {O : Type} {G_post G2_post : Int32 → (O → Prop) → Prop} {G_e29 G2_e29 : Int32 → Int32 → (O → Prop) → Prop} (h_post : ∀ v0, dt (G_post v0) (G2_post v0)) (h_e29 : ∀ v0 v1, dt (G_e29 v0 v1) (G2_e29 v0 v1)) : ∀ (n m : Nat) (z1 : Int32) (z2 : Int32), dt (fun P : O → Prop => wp_X0_wrongCount_L4 s0 (fun v0 => G_post v0 P) (fun v0 v1 => G_e29 v0 v1 P) n z1 z2) (fun P : O → Prop => wp_X0_wrongCount_L4 s0 (fun v0 => G2_post v0 P) (fun v0 v1 => G2_e29 v0 v1 P) m z1 z2) := by
  intro n
  induction n with
  | zero => exact fun _ _ _ => dt_F
  | succ n4 ih =>
    intro m z1 z2
    have key : ∀ m9 : Nat, dt (fun P : O → Prop => wp_X0_wrongCount_L4 s0 (fun v0 => G_post v0 P) (fun v0 v1 => G_e29 v0 v1 P) (n4 + 1) z1 z2) (fun P : O → Prop => wp_X0_wrongCount_L4 s0 (fun v0 => G2_post v0 P) (fun v0 v1 => G2_e29 v0 v1 P) (m9 + 1) z1 z2) := by
      intro m9
      unfold wp_X0_wrongCount_L4
      exact (dt_b1 (F := fun k => wp_X0_cells k s0) (dt_X0_cells s0) (fun r_1 => (dt_p (h_e29 z1 z2) (dt_b1 (F := fun k => wp_X0_showsWrong k s0 z2) (dt_X0_showsWrong s0 z2) (fun r_4 => (dt_p (ih m9 z1 (z2 + 1)) (ih m9 (z1 + 1) (z2 + 1))))))))
    cases m with
    | zero => exact dt_0 (key 0)
    | succ m9 => exact key m9
set_option maxHeartbeats 4000000 in
theorem dt_X0_wrongCount (s0 : Bd) : dt (fun P : Int32 → Prop => wp_X0_wrongCount (fun a0 => P a0) s0) (fun P : Int32 → Prop => wp_X0_wrongCount (fun a0 => P a0) s0) := by
  unfold wp_X0_wrongCount
  exact (dt_x (fun n4 m_n4 => (dl_X0_wrongCount_L4 s0 (fun v0 => (dt_r _)) (fun z1 z2 => (dt_r _)) n4 m_n4 0 0)))
set_option maxHeartbeats 4000000 in
theorem dl_X0_sumOf_8_L4 (s0 : Bd) {O : Type} {G_post G2_post : Int32 → (O → Prop) → Prop} {G_e30 G2_e30 : Int32 → Int32 → (O → Prop) → Prop} (h_post : ∀ v0, dt (G_post v0) (G2_post v0)) (h_e30 : ∀ v0 v1, dt (G_e30 v0 v1) (G2_e30 v0 v1)) : ∀ (n m : Nat) (z2 : Int32) (z3 : Int32), dt (fun P : O → Prop => wp_X0_sumOf_8_L4 s0 (fun v0 => G_post v0 P) (fun v0 v1 => G_e30 v0 v1 P) n z2 z3) (fun P : O → Prop => wp_X0_sumOf_8_L4 s0 (fun v0 => G2_post v0 P) (fun v0 v1 => G2_e30 v0 v1 P) m z2 z3) := by
  intro n
  induction n with
  | zero => exact fun _ _ _ => dt_F
  | succ n4 ih =>
    intro m z2 z3
    have key : ∀ m9 : Nat, dt (fun P : O → Prop => wp_X0_sumOf_8_L4 s0 (fun v0 => G_post v0 P) (fun v0 v1 => G_e30 v0 v1 P) (n4 + 1) z2 z3) (fun P : O → Prop => wp_X0_sumOf_8_L4 s0 (fun v0 => G2_post v0 P) (fun v0 v1 => G2_e30 v0 v1 P) (m9 + 1) z2 z3) := by
      intro m9
      unfold wp_X0_sumOf_8_L4
      exact (dt_b1 (F := fun k => wp_X0_cells k s0) (dt_X0_cells s0) (fun r_1 => (dt_p (h_e30 z2 z3) (dt_p (h_e30 z2 z3) (dt_c (ih m9 (z2 + ((s0.2.1 8) (Int32.toNatClampNeg z3))) (z3 + 1)))))))
    cases m with
    | zero => exact dt_0 (key 0)
    | succ m9 => exact key m9
set_option maxHeartbeats 4000000 in
theorem dt_X0_sumOf_8 (s0 : Bd) : dt (fun P : Int32 → Prop => wp_X0_sumOf_8 (fun a0 => P a0) s0) (fun P : Int32 → Prop => wp_X0_sumOf_8 (fun a0 => P a0) s0) := by
  unfold wp_X0_sumOf_8
  exact (dt_x (fun n4 m_n4 => (dl_X0_sumOf_8_L4 s0 (fun v0 => (dt_r _)) (fun z2 z3 => (dt_r _)) n4 m_n4 0 0)))
set_option maxHeartbeats 4000000 in
theorem dl_X0_sumOf_9_L4 (s0 : Bd) {O : Type} {G_post G2_post : Int32 → (O → Prop) → Prop} {G_e30 G2_e30 : Int32 → Int32 → (O → Prop) → Prop} (h_post : ∀ v0, dt (G_post v0) (G2_post v0)) (h_e30 : ∀ v0 v1, dt (G_e30 v0 v1) (G2_e30 v0 v1)) : ∀ (n m : Nat) (z2 : Int32) (z3 : Int32), dt (fun P : O → Prop => wp_X0_sumOf_9_L4 s0 (fun v0 => G_post v0 P) (fun v0 v1 => G_e30 v0 v1 P) n z2 z3) (fun P : O → Prop => wp_X0_sumOf_9_L4 s0 (fun v0 => G2_post v0 P) (fun v0 v1 => G2_e30 v0 v1 P) m z2 z3) := by
  intro n
  induction n with
  | zero => exact fun _ _ _ => dt_F
  | succ n4 ih =>
    intro m z2 z3
    have key : ∀ m9 : Nat, dt (fun P : O → Prop => wp_X0_sumOf_9_L4 s0 (fun v0 => G_post v0 P) (fun v0 v1 => G_e30 v0 v1 P) (n4 + 1) z2 z3) (fun P : O → Prop => wp_X0_sumOf_9_L4 s0 (fun v0 => G2_post v0 P) (fun v0 v1 => G2_e30 v0 v1 P) (m9 + 1) z2 z3) := by
      intro m9
      unfold wp_X0_sumOf_9_L4
      exact (dt_b1 (F := fun k => wp_X0_cells k s0) (dt_X0_cells s0) (fun r_1 => (dt_p (h_e30 z2 z3) (dt_p (h_e30 z2 z3) (dt_c (ih m9 (z2 + ((s0.2.1 9) (Int32.toNatClampNeg z3))) (z3 + 1)))))))
    cases m with
    | zero => exact dt_0 (key 0)
    | succ m9 => exact key m9
set_option maxHeartbeats 4000000 in
theorem dt_X0_sumOf_9 (s0 : Bd) : dt (fun P : Int32 → Prop => wp_X0_sumOf_9 (fun a0 => P a0) s0) (fun P : Int32 → Prop => wp_X0_sumOf_9 (fun a0 => P a0) s0) := by
  unfold wp_X0_sumOf_9
  exact (dt_x (fun n4 m_n4 => (dl_X0_sumOf_9_L4 s0 (fun v0 => (dt_r _)) (fun z2 z3 => (dt_r _)) n4 m_n4 0 0)))
set_option maxHeartbeats 4000000 in
theorem dt_X0_swapSigns (s0 : Bd) (x1 : Int32) (x2 : Int32) (x3 : Int32) : dt (fun P : Bd → Prop => wp_X0_swapSigns (fun a0 => P a0) s0 x1 x2 x3) (fun P : Bd → Prop => wp_X0_swapSigns (fun a0 => P a0) s0 x1 x2 x3) := by
  unfold wp_X0_swapSigns
  exact (dt_b1 (F := fun k => wp_X0_isMovable k s0 x1 x2) (dt_X0_isMovable s0 x1 x2) (fun r_1 => (dt_p (dt_r _) (dt_b1 (F := fun k => wp_X0_isMovable k s0 x1 x3) (dt_X0_isMovable s0 x1 x3) (fun r_4 => (dt_n (dt_c (dt_c (dt_c (dt_c (dt_r _))))) (dt_r _)))))))
set_option maxHeartbeats 4000000 in
theorem dl_X0_cellsWith_L4 (s0 : Bd) {O : Type} {G_post G2_post : Int32 → (O → Prop) → Prop} {G_e31 G2_e31 : Int32 → Int32 → Int32 → (O → Prop) → Prop} (h_post : ∀ v0, dt (G_post v0) (G2_post v0)) (h_e31 : ∀ v0 v1 v2, dt (G_e31 v0 v1 v2) (G2_e31 v0 v1 v2)) : ∀ (n m : Nat) (z1 : Int32) (z2 : Int32) (z3 : Int32), dt (fun P : O → Prop => wp_X0_cellsWith_L4 s0 (fun v0 => G_post v0 P) (fun v0 v1 v2 => G_e31 v0 v1 v2 P) n z1 z2 z3) (fun P : O → Prop => wp_X0_cellsWith_L4 s0 (fun v0 => G2_post v0 P) (fun v0 v1 v2 => G2_e31 v0 v1 v2 P) m z1 z2 z3) := by
  intro n
  induction n with
  | zero => exact fun _ _ _ _ => dt_F
  | succ n4 ih =>
    intro m z1 z2 z3
    have key : ∀ m9 : Nat, dt (fun P : O → Prop => wp_X0_cellsWith_L4 s0 (fun v0 => G_post v0 P) (fun v0 v1 v2 => G_e31 v0 v1 v2 P) (n4 + 1) z1 z2 z3) (fun P : O → Prop => wp_X0_cellsWith_L4 s0 (fun v0 => G2_post v0 P) (fun v0 v1 v2 => G2_e31 v0 v1 v2 P) (m9 + 1) z1 z2 z3) := by
      intro m9
      unfold wp_X0_cellsWith_L4
      exact (dt_b1 (F := fun k => wp_X0_cells k s0) (dt_X0_cells s0) (fun r_1 => (dt_p (h_e31 z1 z2 z3) (dt_c (dt_n (ih m9 z1 z2 (z3 + 1)) (ih m9 z1 (z2 + 1) (z3 + 1)))))))
    cases m with
    | zero => exact dt_0 (key 0)
    | succ m9 => exact key m9
set_option maxHeartbeats 4000000 in
theorem dt_X0_cellsWith (s0 : Bd) (x1 : Int32) : dt (fun P : Int32 → Prop => wp_X0_cellsWith (fun a0 => P a0) s0 x1) (fun P : Int32 → Prop => wp_X0_cellsWith (fun a0 => P a0) s0 x1) := by
  unfold wp_X0_cellsWith
  exact (dt_x (fun n4 m_n4 => (dl_X0_cellsWith_L4 s0 (fun v0 => (dt_r _)) (fun z1 z2 z3 => (dt_r _)) n4 m_n4 x1 0 0)))
set_option maxHeartbeats 4000000 in
theorem dl_X0_flapsWith_L19 (s0 : Bd) {O : Type} {G_post G2_post : Int32 → (O → Prop) → Prop} {G_e49 G2_e49 : Int32 → Int32 → Int32 → Int32 → Int32 → Int32 → Int32 → (O → Prop) → Prop} (h_post : ∀ v0, dt (G_post v0) (G2_post v0)) (h_e49 : ∀ v0 v1 v2 v3 v4 v5 v6, dt (G_e49 v0 v1 v2 v3 v4 v5 v6) (G2_e49 v0 v1 v2 v3 v4 v5 v6)) : ∀ (n m : Nat) (z1 : Int32) (z2 : Int32) (z3 : Int32) (z4 : Int32) (z5 : Int32) (z6 : Int32) (z7 : Int32), dt (fun P : O → Prop => wp_X0_flapsWith_L19 s0 (fun v0 => G_post v0 P) (fun v0 v1 v2 v3 v4 v5 v6 => G_e49 v0 v1 v2 v3 v4 v5 v6 P) n z1 z2 z3 z4 z5 z6 z7) (fun P : O → Prop => wp_X0_flapsWith_L19 s0 (fun v0 => G2_post v0 P) (fun v0 v1 v2 v3 v4 v5 v6 => G2_e49 v0 v1 v2 v3 v4 v5 v6 P) m z1 z2 z3 z4 z5 z6 z7) := by
  intro n
  induction n with
  | zero => exact fun _ _ _ _ _ _ _ _ => dt_F
  | succ n19 ih =>
    intro m z1 z2 z3 z4 z5 z6 z7
    have key : ∀ m9 : Nat, dt (fun P : O → Prop => wp_X0_flapsWith_L19 s0 (fun v0 => G_post v0 P) (fun v0 v1 v2 v3 v4 v5 v6 => G_e49 v0 v1 v2 v3 v4 v5 v6 P) (n19 + 1) z1 z2 z3 z4 z5 z6 z7) (fun P : O → Prop => wp_X0_flapsWith_L19 s0 (fun v0 => G2_post v0 P) (fun v0 v1 v2 v3 v4 v5 v6 => G2_e49 v0 v1 v2 v3 v4 v5 v6 P) (m9 + 1) z1 z2 z3 z4 z5 z6 z7) := by
      intro m9
      unfold wp_X0_flapsWith_L19
      exact (dt_p (h_e49 z1 z2 z3 z4 z5 z6 z7) (dt_c (dt_n (ih m9 z1 z2 z3 z4 z5 z6 (z7 + 1)) (ih m9 z1 z2 z3 z4 z5 (z6 + 1) (z7 + 1)))))
    cases m with
    | zero => exact dt_0 (key 0)
    | succ m9 => exact key m9
set_option maxHeartbeats 4000000 in
theorem dt_X0_flapsWith (s0 : Bd) (x1 : Int32) (x2 : Int32) (x3 : Int32) : dt (fun P : Int32 → Prop => wp_X0_flapsWith (fun a0 => P a0) s0 x1 x2 x3) (fun P : Int32 → Prop => wp_X0_flapsWith (fun a0 => P a0) s0 x1 x2 x3) := by
  unfold wp_X0_flapsWith
  exact (dt_b1 (F := fun k => wp_X0_flapsOn k s0 x1) (dt_X0_flapsOn s0 x1) (fun r_1 => (dt_x (fun n19 m_n19 => (dl_X0_flapsWith_L19 s0 (fun v0 => (dt_r _)) (fun z1 z2 z3 z4 z5 z6 z7 => (dt_r _)) n19 m_n19 x1 x2 x3 (x1 * 40) r_1 0 x3)))))
set_option maxHeartbeats 4000000 in
theorem dt_X0_drumHas (s0 : Bd) (x1 : Int32) (x2 : Int32) : dt (fun P : Int32 → Prop => wp_X0_drumHas (fun a0 => P a0) s0 x1 x2) (fun P : Int32 → Prop => wp_X0_drumHas (fun a0 => P a0) s0 x1 x2) := by
  unfold wp_X0_drumHas
  exact (dt_b1 (F := fun k => wp_X0_flapsWith k s0 x1 x2 (0 : Int32)) (dt_X0_flapsWith s0 x1 x2 (0 : Int32)) (fun r_1 => (dt_p (dt_r _) (dt_r _))))
set_option maxHeartbeats 4000000 in
theorem dl_X0_someDrumHas_L2 (s0 : Bd) {O : Type} {G_post G2_post : Int32 → (O → Prop) → Prop} {G_e27 G2_e27 : Int32 → Int32 → (O → Prop) → Prop} (h_post : ∀ v0, dt (G_post v0) (G2_post v0)) (h_e27 : ∀ v0 v1, dt (G_e27 v0 v1) (G2_e27 v0 v1)) : ∀ (n m : Nat) (z1 : Int32) (z2 : Int32), dt (fun P : O → Prop => wp_X0_someDrumHas_L2 s0 (fun v0 => G_post v0 P) (fun v0 v1 => G_e27 v0 v1 P) n z1 z2) (fun P : O → Prop => wp_X0_someDrumHas_L2 s0 (fun v0 => G2_post v0 P) (fun v0 v1 => G2_e27 v0 v1 P) m z1 z2) := by
  intro n
  induction n with
  | zero => exact fun _ _ _ => dt_F
  | succ n2 ih =>
    intro m z1 z2
    have key : ∀ m9 : Nat, dt (fun P : O → Prop => wp_X0_someDrumHas_L2 s0 (fun v0 => G_post v0 P) (fun v0 v1 => G_e27 v0 v1 P) (n2 + 1) z1 z2) (fun P : O → Prop => wp_X0_someDrumHas_L2 s0 (fun v0 => G2_post v0 P) (fun v0 v1 => G2_e27 v0 v1 P) (m9 + 1) z1 z2) := by
      intro m9
      unfold wp_X0_someDrumHas_L2
      exact (dt_p (h_e27 z1 z2) (dt_b1 (F := fun k => wp_X0_drumHas k s0 z2 z1) (dt_X0_drumHas s0 z2 z1) (fun r_2 => (dt_p (ih m9 z1 (z2 + 1)) (h_post 1)))))
    cases m with
    | zero => exact dt_0 (key 0)
    | succ m9 => exact key m9
set_option maxHeartbeats 4000000 in
theorem dt_X0_someDrumHas (s0 : Bd) (x1 : Int32) : dt (fun P : Int32 → Prop => wp_X0_someDrumHas (fun a0 => P a0) s0 x1) (fun P : Int32 → Prop => wp_X0_someDrumHas (fun a0 => P a0) s0 x1) := by
  unfold wp_X0_someDrumHas
  exact (dt_x (fun n2 m_n2 => (dl_X0_someDrumHas_L2 s0 (fun v0 => (dt_r _)) (fun z1 z2 => (dt_r _)) n2 m_n2 x1 0)))
set_option maxHeartbeats 4000000 in
theorem dt_X0_isLastOfSign (s0 : Bd) (x1 : Int32) (x2 : Int32) : dt (fun P : Int32 → Prop => wp_X0_isLastOfSign (fun a0 => P a0) s0 x1 x2) (fun P : Int32 → Prop => wp_X0_isLastOfSign (fun a0 => P a0) s0 x1 x2) := by
  unfold wp_X0_isLastOfSign
  exact (dt_b1 (F := fun k => wp_X0_signOf k s0 x1 x2) (dt_X0_signOf s0 x1 x2) (fun r_1 => (dt_b1 (F := fun k => wp_X0_flapsWith k s0 x1 r_1 (x2 + 1)) (dt_X0_flapsWith s0 x1 r_1 (x2 + 1)) (fun r_3 => (dt_n (dt_r _) (dt_r _))))))
set_option maxHeartbeats 4000000 in
theorem dl_X0_nearest_L60 (s0 : Bd) {O : Type} {G_post G2_post : Int32 → (O → Prop) → Prop} {G_e121 G2_e121 : Int32 → Int32 → Int32 → Int32 → Int32 → Int64 → Int32 → Int32 → (O → Prop) → Prop} (h_post : ∀ v0, dt (G_post v0) (G2_post v0)) (h_e121 : ∀ v0 v1 v2 v3 v4 v5 v6 v7, dt (G_e121 v0 v1 v2 v3 v4 v5 v6 v7) (G2_e121 v0 v1 v2 v3 v4 v5 v6 v7)) : ∀ (n m : Nat) (z1 : Int32) (z2 : Int32) (z3 : Int32) (z4 : Int32) (z5 : Int32) (w6 : Int64) (z8 : Int32) (z9 : Int32), dt (fun P : O → Prop => wp_X0_nearest_L60 s0 (fun v0 => G_post v0 P) (fun v0 v1 v2 v3 v4 v5 v6 v7 => G_e121 v0 v1 v2 v3 v4 v5 v6 v7 P) n z1 z2 z3 z4 z5 w6 z8 z9) (fun P : O → Prop => wp_X0_nearest_L60 s0 (fun v0 => G2_post v0 P) (fun v0 v1 v2 v3 v4 v5 v6 v7 => G2_e121 v0 v1 v2 v3 v4 v5 v6 v7 P) m z1 z2 z3 z4 z5 w6 z8 z9) := by
  intro n
  induction n with
  | zero => exact fun _ _ _ _ _ _ _ _ _ => dt_F
  | succ n60 ih =>
    intro m z1 z2 z3 z4 z5 w6 z8 z9
    have key : ∀ m9 : Nat, dt (fun P : O → Prop => wp_X0_nearest_L60 s0 (fun v0 => G_post v0 P) (fun v0 v1 v2 v3 v4 v5 v6 v7 => G_e121 v0 v1 v2 v3 v4 v5 v6 v7 P) (n60 + 1) z1 z2 z3 z4 z5 w6 z8 z9) (fun P : O → Prop => wp_X0_nearest_L60 s0 (fun v0 => G2_post v0 P) (fun v0 v1 v2 v3 v4 v5 v6 v7 => G2_e121 v0 v1 v2 v3 v4 v5 v6 v7 P) (m9 + 1) z1 z2 z3 z4 z5 w6 z8 z9) := by
      intro m9
      unfold wp_X0_nearest_L60
      exact (dt_p (h_e121 z1 z2 z3 z4 z5 w6 z8 z9) (dt_c (dt_n (dt_p (ih m9 z1 z2 z3 z4 z5 w6 0 (z9 + 1)) (ih m9 z1 z2 z3 z4 z5 w6 (z8 + 1) (z9 + 1))) (dt_p (dt_p (ih m9 z1 z2 z3 z4 z5 w6 0 (z9 + 1)) (ih m9 z1 z2 z3 z4 z5 w6 (z8 + 1) (z9 + 1))) (h_post z8)))))
    cases m with
    | zero => exact dt_0 (key 0)
    | succ m9 => exact key m9
set_option maxHeartbeats 4000000 in
theorem dt_X0_nearest (s0 : Bd) (x1 : Int32) (x2 : Int32) : dt (fun P : Int32 → Prop => wp_X0_nearest (fun a0 => P a0) s0 x1 x2) (fun P : Int32 → Prop => wp_X0_nearest (fun a0 => P a0) s0 x1 x2) := by
  unfold wp_X0_nearest
  exact (dt_c (dt_p (dt_c (dt_c (dt_x (fun n60 m_n60 => (dl_X0_nearest_L60 s0 (fun v0 => (dt_r _)) (fun z1 z2 z3 z4 z5 w6 z8 z9 => (dt_r _)) n60 m_n60 x1 x2 ((s0.2.1 3) (Int32.toNatClampNeg x1)) 0 (((s0.2.1 3) (Int32.toNatClampNeg x1)) * 40) ((s0.2.2.1 (Int32.toNatClampNeg x1)) ^^^ (-1)) ((s0.2.1 5) (Int32.toNatClampNeg x1)) 0))))) (dt_p (dt_c (dt_c (dt_x (fun n60 m_n60 => (dl_X0_nearest_L60 s0 (fun v0 => (dt_r _)) (fun z1 z2 z3 z4 z5 w6 z8 z9 => (dt_r _)) n60 m_n60 x1 x2 ((s0.2.1 3) (Int32.toNatClampNeg x1)) 0 (((s0.2.1 3) (Int32.toNatClampNeg x1)) * 40) ((s0.2.2.1 (Int32.toNatClampNeg x1)) ^^^ (-1)) ((s0.2.1 5) (Int32.toNatClampNeg x1)) 0))))) (dt_c (dt_c (dt_c (dt_x (fun n60 m_n60 => (dl_X0_nearest_L60 s0 (fun v0 => (dt_r _)) (fun z1 z2 z3 z4 z5 w6 z8 z9 => (dt_r _)) n60 m_n60 x1 x2 ((s0.2.1 3) (Int32.toNatClampNeg x1)) ((s0.2.1 1) (Int32.toNatClampNeg ((s0.2.1 3) (Int32.toNatClampNeg x1)))) (((s0.2.1 3) (Int32.toNatClampNeg x1)) * 40) ((s0.2.2.1 (Int32.toNatClampNeg x1)) ^^^ (-1)) ((s0.2.1 5) (Int32.toNatClampNeg x1)) 0)))))))))
set_option maxHeartbeats 4000000 in
theorem dl_X0_missedOfOwn_L12 (s0 : Bd) {O : Type} {G_post G2_post : Int32 → (O → Prop) → Prop} {G_e57 G2_e57 : Int32 → Int32 → Int32 → Int32 → (O → Prop) → Prop} (h_post : ∀ v0, dt (G_post v0) (G2_post v0)) (h_e57 : ∀ v0 v1 v2 v3, dt (G_e57 v0 v1 v2 v3) (G2_e57 v0 v1 v2 v3)) : ∀ (n m : Nat) (z1 : Int32) (z2 : Int32) (z3 : Int32) (z4 : Int32), dt (fun P : O → Prop => wp_X0_missedOfOwn_L12 s0 (fun v0 => G_post v0 P) (fun v0 v1 v2 v3 => G_e57 v0 v1 v2 v3 P) n z1 z2 z3 z4) (fun P : O → Prop => wp_X0_missedOfOwn_L12 s0 (fun v0 => G2_post v0 P) (fun v0 v1 v2 v3 => G2_e57 v0 v1 v2 v3 P) m z1 z2 z3 z4) := by
  intro n
  induction n with
  | zero => exact fun _ _ _ _ _ => dt_F
  | succ n12 ih =>
    intro m z1 z2 z3 z4
    have key : ∀ m9 : Nat, dt (fun P : O → Prop => wp_X0_missedOfOwn_L12 s0 (fun v0 => G_post v0 P) (fun v0 v1 v2 v3 => G_e57 v0 v1 v2 v3 P) (n12 + 1) z1 z2 z3 z4) (fun P : O → Prop => wp_X0_missedOfOwn_L12 s0 (fun v0 => G2_post v0 P) (fun v0 v1 v2 v3 => G2_e57 v0 v1 v2 v3 P) (m9 + 1) z1 z2 z3 z4) := by
      intro m9
      unfold wp_X0_missedOfOwn_L12
      exact (dt_b1 (F := fun k => wp_X0_flapsOn k s0 z2) (dt_X0_flapsOn s0 z2) (fun r_2 => (dt_p (h_e57 z1 z2 z3 z4) (dt_b1 (F := fun k => wp_X0_isLastOfSign k s0 z2 z4) (dt_X0_isLastOfSign s0 z2 z4) (fun r_5 => (dt_p (ih m9 z1 z2 z3 (z4 + 1)) (dt_b1 (F := fun k => wp_X0_signOf k s0 z2 z4) (dt_X0_signOf s0 z2 z4) (fun r_8 => (dt_b1 (F := fun k => wp_X0_nearest k s0 z1 r_8) (dt_X0_nearest s0 z1 r_8) (fun r_10 => (dt_n (ih m9 z1 z2 z3 (z4 + 1)) (ih m9 z1 z2 (z3 + 1) (z4 + 1)))))))))))))
    cases m with
    | zero => exact dt_0 (key 0)
    | succ m9 => exact key m9
set_option maxHeartbeats 4000000 in
theorem dt_X0_missedOfOwn (s0 : Bd) (x1 : Int32) : dt (fun P : Int32 → Prop => wp_X0_missedOfOwn (fun a0 => P a0) s0 x1) (fun P : Int32 → Prop => wp_X0_missedOfOwn (fun a0 => P a0) s0 x1) := by
  unfold wp_X0_missedOfOwn
  exact (dt_c (dt_x (fun n12 m_n12 => (dl_X0_missedOfOwn_L12 s0 (fun v0 => (dt_r _)) (fun z1 z2 z3 z4 => (dt_r _)) n12 m_n12 x1 ((s0.2.1 3) (Int32.toNatClampNeg x1)) 0 0))))
set_option maxHeartbeats 4000000 in
theorem dl_X0_signsOfOthers_L5 (s0 : Bd) {O : Type} {G_post G2_post : Int32 → (O → Prop) → Prop} {G_e37 G2_e37 : Int32 → Int32 → Int32 → (O → Prop) → Prop} (h_post : ∀ v0, dt (G_post v0) (G2_post v0)) (h_e37 : ∀ v0 v1 v2, dt (G_e37 v0 v1 v2) (G2_e37 v0 v1 v2)) : ∀ (n m : Nat) (z1 : Int32) (z2 : Int32) (z3 : Int32), dt (fun P : O → Prop => wp_X0_signsOfOthers_L5 s0 (fun v0 => G_post v0 P) (fun v0 v1 v2 => G_e37 v0 v1 v2 P) n z1 z2 z3) (fun P : O → Prop => wp_X0_signsOfOthers_L5 s0 (fun v0 => G2_post v0 P) (fun v0 v1 v2 => G2_e37 v0 v1 v2 P) m z1 z2 z3) := by
  intro n
  induction n with
  | zero => exact fun _ _ _ _ => dt_F
  | succ n5 ih =>
    intro m z1 z2 z3
    have key : ∀ m9 : Nat, dt (fun P : O → Prop => wp_X0_signsOfOthers_L5 s0 (fun v0 => G_post v0 P) (fun v0 v1 v2 => G_e37 v0 v1 v2 P) (n5 + 1) z1 z2 z3) (fun P : O → Prop => wp_X0_signsOfOthers_L5 s0 (fun v0 => G2_post v0 P) (fun v0 v1 v2 => G2_e37 v0 v1 v2 P) (m9 + 1) z1 z2 z3) := by
      intro m9
      unfold wp_X0_signsOfOthers_L5
      exact (dt_p (h_e37 z1 z2 z3) (dt_b1 (F := fun k => wp_X0_someDrumHas k s0 z3) (dt_X0_someDrumHas s0 z3) (fun r_2 => (dt_p (ih m9 z1 z2 (z3 + 1)) (dt_b1 (F := fun k => wp_X0_drumHas k s0 z1 z3) (dt_X0_drumHas s0 z1 z3) (fun r_5 => (dt_n (ih m9 z1 z2 (z3 + 1)) (ih m9 z1 (z2 + 1) (z3 + 1)))))))))
    cases m with
    | zero => exact dt_0 (key 0)
    | succ m9 => exact key m9
set_option maxHeartbeats 4000000 in
theorem dt_X0_signsOfOthers (s0 : Bd) (x1 : Int32) : dt (fun P : Int32 → Prop => wp_X0_signsOfOthers (fun a0 => P a0) s0 x1) (fun P : Int32 → Prop => wp_X0_signsOfOthers (fun a0 => P a0) s0 x1) := by
  unfold wp_X0_signsOfOthers
  exact (dt_x (fun n5 m_n5 => (dl_X0_signsOfOthers_L5 s0 (fun v0 => (dt_r _)) (fun z1 z2 z3 => (dt_r _)) n5 m_n5 x1 0 32)))
set_option maxHeartbeats 4000000 in
theorem dl_X0_unlikeSigns_L4 (s0 : Bd) {O : Type} {G_post G2_post : Int32 → (O → Prop) → Prop} {G_e31 G2_e31 : Int32 → Int32 → Int32 → (O → Prop) → Prop} (h_post : ∀ v0, dt (G_post v0) (G2_post v0)) (h_e31 : ∀ v0 v1 v2, dt (G_e31 v0 v1 v2) (G2_e31 v0 v1 v2)) : ∀ (n m : Nat) (z1 : Int32) (z2 : Int32) (z3 : Int32), dt (fun P : O → Prop => wp_X0_unlikeSigns_L4 s0 (fun v0 => G_post v0 P) (fun v0 v1 v2 => G_e31 v0 v1 v2 P) n z1 z2 z3) (fun P : O → Prop => wp_X0_unlikeSigns_L4 s0 (fun v0 => G2_post v0 P) (fun v0 v1 v2 => G2_e31 v0 v1 v2 P) m z1 z2 z3) := by
  intro n
  induction n with
  | zero => exact fun _ _ _ _ => dt_F
  | succ n4 ih =>
    intro m z1 z2 z3
    have key : ∀ m9 : Nat, dt (fun P : O → Prop => wp_X0_unlikeSigns_L4 s0 (fun v0 => G_post v0 P) (fun v0 v1 v2 => G_e31 v0 v1 v2 P) (n4 + 1) z1 z2 z3) (fun P : O → Prop => wp_X0_unlikeSigns_L4 s0 (fun v0 => G2_post v0 P) (fun v0 v1 v2 => G2_e31 v0 v1 v2 P) (m9 + 1) z1 z2 z3) := by
      intro m9
      unfold wp_X0_unlikeSigns_L4
      exact (dt_b1 (F := fun k => wp_X0_flapsOn k s0 z1) (dt_X0_flapsOn s0 z1) (fun r_1 => (dt_p (h_e31 z1 z2 z3) (dt_b1 (F := fun k => wp_X0_isLastOfSign k s0 z1 z3) (dt_X0_isLastOfSign s0 z1 z3) (fun r_4 => (dt_p (ih m9 z1 z2 (z3 + 1)) (ih m9 z1 (z2 + 1) (z3 + 1))))))))
    cases m with
    | zero => exact dt_0 (key 0)
    | succ m9 => exact key m9
set_option maxHeartbeats 4000000 in
theorem dt_X0_unlikeSigns (s0 : Bd) (x1 : Int32) : dt (fun P : Int32 → Prop => wp_X0_unlikeSigns (fun a0 => P a0) s0 x1) (fun P : Int32 → Prop => wp_X0_unlikeSigns (fun a0 => P a0) s0 x1) := by
  unfold wp_X0_unlikeSigns
  exact (dt_x (fun n4 m_n4 => (dl_X0_unlikeSigns_L4 s0 (fun v0 => (dt_r _)) (fun z1 z2 z3 => (dt_r _)) n4 m_n4 x1 0 0)))
set_option maxHeartbeats 4000000 in
theorem dl_X0_mostOfOneSign_L4 (s0 : Bd) {O : Type} {G_post G2_post : Int32 → (O → Prop) → Prop} {G_e36 G2_e36 : Int32 → Int32 → Int32 → (O → Prop) → Prop} (h_post : ∀ v0, dt (G_post v0) (G2_post v0)) (h_e36 : ∀ v0 v1 v2, dt (G_e36 v0 v1 v2) (G2_e36 v0 v1 v2)) : ∀ (n m : Nat) (z1 : Int32) (z2 : Int32) (z3 : Int32), dt (fun P : O → Prop => wp_X0_mostOfOneSign_L4 s0 (fun v0 => G_post v0 P) (fun v0 v1 v2 => G_e36 v0 v1 v2 P) n z1 z2 z3) (fun P : O → Prop => wp_X0_mostOfOneSign_L4 s0 (fun v0 => G2_post v0 P) (fun v0 v1 v2 => G2_e36 v0 v1 v2 P) m z1 z2 z3) := by
  intro n
  induction n with
  | zero => exact fun _ _ _ _ => dt_F
  | succ n4 ih =>
    intro m z1 z2 z3
    have key : ∀ m9 : Nat, dt (fun P : O → Prop => wp_X0_mostOfOneSign_L4 s0 (fun v0 => G_post v0 P) (fun v0 v1 v2 => G_e36 v0 v1 v2 P) (n4 + 1) z1 z2 z3) (fun P : O → Prop => wp_X0_mostOfOneSign_L4 s0 (fun v0 => G2_post v0 P) (fun v0 v1 v2 => G2_e36 v0 v1 v2 P) (m9 + 1) z1 z2 z3) := by
      intro m9
      unfold wp_X0_mostOfOneSign_L4
      exact (dt_b1 (F := fun k => wp_X0_flapsOn k s0 z1) (dt_X0_flapsOn s0 z1) (fun r_1 => (dt_p (h_e36 z1 z2 z3) (dt_b1 (F := fun k => wp_X0_signOf k s0 z1 z3) (dt_X0_signOf s0 z1 z3) (fun r_4 => (dt_b1 (F := fun k => wp_X0_flapsWith k s0 z1 r_4 z3) (dt_X0_flapsWith s0 z1 r_4 z3) (fun r_6 => (ih m9 z1 (if (z2 < r_6) then r_6 else z2) (z3 + 1)))))))))
    cases m with
    | zero => exact dt_0 (key 0)
    | succ m9 => exact key m9
set_option maxHeartbeats 4000000 in
theorem dt_X0_mostOfOneSign (s0 : Bd) (x1 : Int32) : dt (fun P : Int32 → Prop => wp_X0_mostOfOneSign (fun a0 => P a0) s0 x1) (fun P : Int32 → Prop => wp_X0_mostOfOneSign (fun a0 => P a0) s0 x1) := by
  unfold wp_X0_mostOfOneSign
  exact (dt_x (fun n4 m_n4 => (dl_X0_mostOfOneSign_L4 s0 (fun v0 => (dt_r _)) (fun z1 z2 z3 => (dt_r _)) n4 m_n4 x1 0 0)))
set_option maxHeartbeats 4000000 in
theorem dt_X0_isWorn (s0 : Bd) (x1 : Int32) (x2 : Int32) : dt (fun P : Int32 → Prop => wp_X0_isWorn (fun a0 => P a0) s0 x1 x2) (fun P : Int32 → Prop => wp_X0_isWorn (fun a0 => P a0) s0 x1 x2) := by
  unfold wp_X0_isWorn
  exact (dt_c (dt_p (dt_r _) (dt_r _)))
set_option maxHeartbeats 4000000 in
theorem dt_J13_bitCount_95d88 (y0 : Int64) : dt (fun P : Int32 → Prop => wp_J13_bitCount_95d88 (fun a0 => P a0) y0) (fun P : Int32 → Prop => wp_J13_bitCount_95d88 (fun a0 => P a0) y0) := by
  unfold wp_J13_bitCount_95d88
  exact (dt_r _)

set_option maxHeartbeats 4000000 in
theorem dt_X0_wornCount (s0 : Bd) (x1 : Int32) : dt (fun P : Int32 → Prop => wp_X0_wornCount (fun a0 => P a0) s0 x1) (fun P : Int32 → Prop => wp_X0_wornCount (fun a0 => P a0) s0 x1) := by
  unfold wp_X0_wornCount
  exact (dt_c (dt_b1 (F := fun k => wp_J13_bitCount_95d88 k (s0.2.2.1 (Int32.toNatClampNeg x1))) (dt_J13_bitCount_95d88 (s0.2.2.1 (Int32.toNatClampNeg x1))) (fun r_2 => (dt_r _))))
set_option maxHeartbeats 4000000 in
theorem dt_X0_wearFlap (s0 : Bd) (x1 : Int32) (x2 : Int32) : dt (fun P : Bd → Prop => wp_X0_wearFlap (fun a0 => P a0) s0 x1 x2) (fun P : Bd → Prop => wp_X0_wearFlap (fun a0 => P a0) s0 x1 x2) := by
  unfold wp_X0_wearFlap
  exact (dt_c (dt_c (dt_c (dt_n (dt_r _) (dt_c (dt_r _))))))
set_option maxHeartbeats 4000000 in
theorem dt_X0_mendFlap (s0 : Bd) (x1 : Int32) (x2 : Int32) : dt (fun P : Bd → Prop => wp_X0_mendFlap (fun a0 => P a0) s0 x1 x2) (fun P : Bd → Prop => wp_X0_mendFlap (fun a0 => P a0) s0 x1 x2) := by
  unfold wp_X0_mendFlap
  exact (dt_c (dt_c (dt_r _)))
set_option maxHeartbeats 4000000 in
theorem dt_X6_onFrom (x0 : Int32) (x1 : Int32) (x2 : Int32) : dt (fun P : Int32 → Prop => wp_X6_onFrom (fun a0 => P a0) x0 x1 x2) (fun P : Int32 → Prop => wp_X6_onFrom (fun a0 => P a0) x0 x1 x2) := by
  unfold wp_X6_onFrom
  exact (dt_p (dt_r _) (dt_r _))
set_option maxHeartbeats 4000000 in
theorem dt_X0_flapsOnTo (s0 : Bd) (x1 : Int32) (x2 : Int32) : dt (fun P : Int32 → Prop => wp_X0_flapsOnTo (fun a0 => P a0) s0 x1 x2) (fun P : Int32 → Prop => wp_X0_flapsOnTo (fun a0 => P a0) s0 x1 x2) := by
  unfold wp_X0_flapsOnTo
  exact (dt_c (dt_b1 (F := fun k => wp_X0_flapsOf k s0 x1) (dt_X0_flapsOf s0 x1) (fun r_2 => (dt_b1 (F := fun k => wp_X6_onFrom k ((s0.2.1 5) (Int32.toNatClampNeg x1)) x2 r_2) (dt_X6_onFrom ((s0.2.1 5) (Int32.toNatClampNeg x1)) x2 r_2) (fun r_4 => (dt_r _))))))
set_option maxHeartbeats 4000000 in
theorem dt_X0_leftOf (s0 : Bd) (x1 : Int32) : dt (fun P : Int32 → Prop => wp_X0_leftOf (fun a0 => P a0) s0 x1) (fun P : Int32 → Prop => wp_X0_leftOf (fun a0 => P a0) s0 x1) := by
  unfold wp_X0_leftOf
  exact (dt_c (dt_c (dt_c (dt_p (dt_r _) (dt_p (dt_r _) (dt_p (dt_r _) (dt_c (dt_r _))))))))
set_option maxHeartbeats 4000000 in
theorem dt_X0_flapFor (s0 : Bd) (s1 : Tp) (x1 : Int32) (x2 : Int32) (x4 : Int32) (x5 : Int32) : dt (fun P : Int32 → Prop => wp_X0_flapFor (fun a0 => P a0) s0 s1 x1 x2 x4 x5) (fun P : Int32 → Prop => wp_X0_flapFor (fun a0 => P a0) s0 s1 x1 x2 x4 x5) := by
  unfold wp_X0_flapFor
  exact (dt_p (dt_r _) (dt_p (dt_r _) (dt_b1 (F := fun k => wp_X5_byteAt k s1 (x4 + x2)) (dt_X5_byteAt s1 (x4 + x2)) (fun r_3 => (dt_b1 (F := fun k => wp_X0_nearest k s0 x1 r_3) (dt_X0_nearest s0 x1 r_3) (fun r_5 => (dt_r _)))))))
set_option maxHeartbeats 4000000 in
theorem dl_X0_costOf_L6 (s0 : Bd) (s1 : Tp) {O : Type} {G_post G2_post : Int32 → (O → Prop) → Prop} {G_e72 G2_e72 : Int32 → Int32 → Int32 → Int32 → Int32 → Int32 → (O → Prop) → Prop} (h_post : ∀ v0, dt (G_post v0) (G2_post v0)) (h_e72 : ∀ v0 v1 v2 v3 v4 v5, dt (G_e72 v0 v1 v2 v3 v4 v5) (G2_e72 v0 v1 v2 v3 v4 v5)) : ∀ (n m : Nat) (z1 : Int32) (z2 : Int32) (z4 : Int32) (z5 : Int32) (z6 : Int32) (z7 : Int32), dt (fun P : O → Prop => wp_X0_costOf_L6 s0 s1 (fun v0 => G_post v0 P) (fun v0 v1 v2 v3 v4 v5 => G_e72 v0 v1 v2 v3 v4 v5 P) n z1 z2 z4 z5 z6 z7) (fun P : O → Prop => wp_X0_costOf_L6 s0 s1 (fun v0 => G2_post v0 P) (fun v0 v1 v2 v3 v4 v5 => G2_e72 v0 v1 v2 v3 v4 v5 P) m z1 z2 z4 z5 z6 z7) := by
  intro n
  induction n with
  | zero => exact fun _ _ _ _ _ _ _ => dt_F
  | succ n6 ih =>
    intro m z1 z2 z4 z5 z6 z7
    have key : ∀ m9 : Nat, dt (fun P : O → Prop => wp_X0_costOf_L6 s0 s1 (fun v0 => G_post v0 P) (fun v0 v1 v2 v3 v4 v5 => G_e72 v0 v1 v2 v3 v4 v5 P) (n6 + 1) z1 z2 z4 z5 z6 z7) (fun P : O → Prop => wp_X0_costOf_L6 s0 s1 (fun v0 => G2_post v0 P) (fun v0 v1 v2 v3 v4 v5 => G2_e72 v0 v1 v2 v3 v4 v5 P) (m9 + 1) z1 z2 z4 z5 z6 z7) := by
      intro m9
      unfold wp_X0_costOf_L6
      exact (dt_p (h_e72 z1 z2 z4 z5 z6 z7) (dt_b1 (F := fun k => wp_X0_flapFor k s0 s1 ((z1 * (s0.1 1)) + z7) (z7 - z2) z4 z5) (dt_X0_flapFor s0 s1 ((z1 * (s0.1 1)) + z7) (z7 - z2) z4 z5) (fun r_2 => (dt_n (dt_b1 (F := fun k => wp_X0_flapsOnTo k s0 ((z1 * (s0.1 1)) + z7) r_2) (dt_X0_flapsOnTo s0 ((z1 * (s0.1 1)) + z7) r_2) (fun r_5 => (ih m9 z1 z2 z4 z5 (z6 + r_5) (z7 + 1)))) (ih m9 z1 z2 z4 z5 (z6 + 0) (z7 + 1))))))
    cases m with
    | zero => exact dt_0 (key 0)
    | succ m9 => exact key m9
set_option maxHeartbeats 4000000 in
theorem dt_X0_costOf (s0 : Bd) (s1 : Tp) (x1 : Int32) (x2 : Int32) (x4 : Int32) (x5 : Int32) : dt (fun P : Int32 → Prop => wp_X0_costOf (fun a0 => P a0) s0 s1 x1 x2 x4 x5) (fun P : Int32 → Prop => wp_X0_costOf (fun a0 => P a0) s0 s1 x1 x2 x4 x5) := by
  unfold wp_X0_costOf
  exact (dt_x (fun n6 m_n6 => (dl_X0_costOf_L6 s0 s1 (fun v0 => (dt_r _)) (fun z1 z2 z4 z5 z6 z7 => (dt_r _)) n6 m_n6 x1 x2 x4 x5 0 0)))
set_option maxHeartbeats 4000000 in
theorem dl_X0_missesOf_L6 (s0 : Bd) (s1 : Tp) {O : Type} {G_post G2_post : Int32 → (O → Prop) → Prop} {G_e50 G2_e50 : Int32 → Int32 → Int32 → Int32 → Int32 → Int32 → (O → Prop) → Prop} (h_post : ∀ v0, dt (G_post v0) (G2_post v0)) (h_e50 : ∀ v0 v1 v2 v3 v4 v5, dt (G_e50 v0 v1 v2 v3 v4 v5) (G2_e50 v0 v1 v2 v3 v4 v5)) : ∀ (n m : Nat) (z1 : Int32) (z2 : Int32) (z4 : Int32) (z5 : Int32) (z6 : Int32) (z7 : Int32), dt (fun P : O → Prop => wp_X0_missesOf_L6 s0 s1 (fun v0 => G_post v0 P) (fun v0 v1 v2 v3 v4 v5 => G_e50 v0 v1 v2 v3 v4 v5 P) n z1 z2 z4 z5 z6 z7) (fun P : O → Prop => wp_X0_missesOf_L6 s0 s1 (fun v0 => G2_post v0 P) (fun v0 v1 v2 v3 v4 v5 => G2_e50 v0 v1 v2 v3 v4 v5 P) m z1 z2 z4 z5 z6 z7) := by
  intro n
  induction n with
  | zero => exact fun _ _ _ _ _ _ _ => dt_F
  | succ n6 ih =>
    intro m z1 z2 z4 z5 z6 z7
    have key : ∀ m9 : Nat, dt (fun P : O → Prop => wp_X0_missesOf_L6 s0 s1 (fun v0 => G_post v0 P) (fun v0 v1 v2 v3 v4 v5 => G_e50 v0 v1 v2 v3 v4 v5 P) (n6 + 1) z1 z2 z4 z5 z6 z7) (fun P : O → Prop => wp_X0_missesOf_L6 s0 s1 (fun v0 => G2_post v0 P) (fun v0 v1 v2 v3 v4 v5 => G2_e50 v0 v1 v2 v3 v4 v5 P) (m9 + 1) z1 z2 z4 z5 z6 z7) := by
      intro m9
      unfold wp_X0_missesOf_L6
      exact (dt_p (h_e50 z1 z2 z4 z5 z6 z7) (dt_b1 (F := fun k => wp_X0_flapFor k s0 s1 ((z1 * (s0.1 1)) + z7) (z7 - z2) z4 z5) (dt_X0_flapFor s0 s1 ((z1 * (s0.1 1)) + z7) (z7 - z2) z4 z5) (fun r_2 => (dt_n (ih m9 z1 z2 z4 z5 z6 (z7 + 1)) (ih m9 z1 z2 z4 z5 (z6 + 1) (z7 + 1))))))
    cases m with
    | zero => exact dt_0 (key 0)
    | succ m9 => exact key m9
set_option maxHeartbeats 4000000 in
theorem dt_X0_missesOf (s0 : Bd) (s1 : Tp) (x1 : Int32) (x2 : Int32) (x4 : Int32) (x5 : Int32) : dt (fun P : Int32 → Prop => wp_X0_missesOf (fun a0 => P a0) s0 s1 x1 x2 x4 x5) (fun P : Int32 → Prop => wp_X0_missesOf (fun a0 => P a0) s0 s1 x1 x2 x4 x5) := by
  unfold wp_X0_missesOf
  exact (dt_x (fun n6 m_n6 => (dl_X0_missesOf_L6 s0 s1 (fun v0 => (dt_r _)) (fun z1 z2 z4 z5 z6 z7 => (dt_r _)) n6 m_n6 x1 x2 x4 x5 0 0)))
set_option maxHeartbeats 4000000 in
theorem dt_X0_wantFlap (s0 : Bd) (x1 : Int32) (x2 : Int32) : dt (fun P : (Int32 × Bd) → Prop => wp_X0_wantFlap (fun a0 a1 => P (a0, a1)) s0 x1 x2) (fun P : (Int32 × Bd) → Prop => wp_X0_wantFlap (fun a0 a1 => P (a0, a1)) s0 x1 x2) := by
  unfold wp_X0_wantFlap
  exact (dt_n (dt_c (dt_c (dt_c (dt_b1 (F := fun k => wp_X0_entryStart k (s0.1, (va_up s0.2.1 6 (upd (s0.2.1 6) (Int32.toNatClampNeg x1) x2)), s0.2.2.1, s0.2.2.2.1, s0.2.2.2.2) ((s0.2.1 3) (Int32.toNatClampNeg x1))) (dt_X0_entryStart (s0.1, (va_up s0.2.1 6 (upd (s0.2.1 6) (Int32.toNatClampNeg x1) x2)), s0.2.2.1, s0.2.2.2.1, s0.2.2.2.2) ((s0.2.1 3) (Int32.toNatClampNeg x1))) (fun r_5 => (dt_b1 (F := fun k => wp_X0_flapsOf k (s0.1, (va_up s0.2.1 6 (upd (s0.2.1 6) (Int32.toNatClampNeg x1) x2)), s0.2.2.1, s0.2.2.2.1, s0.2.2.2.2) x1) (dt_X0_flapsOf (s0.1, (va_up s0.2.1 6 (upd (s0.2.1 6) (Int32.toNatClampNeg x1) x2)), s0.2.2.1, s0.2.2.2.1, s0.2.2.2.2) x1) (fun r_7 => (dt_p (dt_r _) (dt_p (dt_r _) (dt_p (dt_r _) (dt_c (dt_c (dt_r _))))))))))))) (dt_r _))
set_option maxHeartbeats 4000000 in
theorem dl_X0_wantSigns_L6 (s1 : Tp) {O : Type} {G_post G2_post : Int32 → Bd → (O → Prop) → Prop} {G_e55 G2_e55 : Bd → Int32 → Int32 → Int32 → Int32 → Int32 → (O → Prop) → Prop} (h_post : ∀ v0 v1, dt (G_post v0 v1) (G2_post v0 v1)) (h_e55 : ∀ v0 v1 v2 v3 v4 v5, dt (G_e55 v0 v1 v2 v3 v4 v5) (G2_e55 v0 v1 v2 v3 v4 v5)) : ∀ (n m : Nat) (t0 : Bd) (z1 : Int32) (z3 : Int32) (z4 : Int32) (z5 : Int32) (z6 : Int32), dt (fun P : O → Prop => wp_X0_wantSigns_L6 s1 (fun v0 v1 => G_post v0 v1 P) (fun v0 v1 v2 v3 v4 v5 => G_e55 v0 v1 v2 v3 v4 v5 P) n t0 z1 z3 z4 z5 z6) (fun P : O → Prop => wp_X0_wantSigns_L6 s1 (fun v0 v1 => G2_post v0 v1 P) (fun v0 v1 v2 v3 v4 v5 => G2_e55 v0 v1 v2 v3 v4 v5 P) m t0 z1 z3 z4 z5 z6) := by
  intro n
  induction n with
  | zero => exact fun _ _ _ _ _ _ _ => dt_F
  | succ n6 ih =>
    intro m t0 z1 z3 z4 z5 z6
    have key : ∀ m9 : Nat, dt (fun P : O → Prop => wp_X0_wantSigns_L6 s1 (fun v0 v1 => G_post v0 v1 P) (fun v0 v1 v2 v3 v4 v5 => G_e55 v0 v1 v2 v3 v4 v5 P) (n6 + 1) t0 z1 z3 z4 z5 z6) (fun P : O → Prop => wp_X0_wantSigns_L6 s1 (fun v0 v1 => G2_post v0 v1 P) (fun v0 v1 v2 v3 v4 v5 => G2_e55 v0 v1 v2 v3 v4 v5 P) (m9 + 1) t0 z1 z3 z4 z5 z6) := by
      intro m9
      unfold wp_X0_wantSigns_L6
      exact (dt_p (h_e55 t0 z1 z3 z4 z5 z6) (dt_b1 (F := fun k => wp_X0_flapFor k t0 s1 ((z1 * (t0.1 1)) + z6) z6 z3 z4) (dt_X0_flapFor t0 s1 ((z1 * (t0.1 1)) + z6) z6 z3 z4) (fun r_2 => (dt_b2 (F := fun k => wp_X0_wantFlap k t0 ((z1 * (t0.1 1)) + z6) r_2) (dt_X0_wantFlap t0 ((z1 * (t0.1 1)) + z6) r_2) (fun r_4 u_5 => (ih m9 u_5 z1 z3 z4 (z5 + r_4) (z6 + 1)))))))
    cases m with
    | zero => exact dt_0 (key 0)
    | succ m9 => exact key m9
set_option maxHeartbeats 4000000 in
theorem dt_X0_wantSigns (s0 : Bd) (s1 : Tp) (x1 : Int32) (x3 : Int32) (x4 : Int32) : dt (fun P : (Int32 × Bd) → Prop => wp_X0_wantSigns (fun a0 a1 => P (a0, a1)) s0 s1 x1 x3 x4) (fun P : (Int32 × Bd) → Prop => wp_X0_wantSigns (fun a0 a1 => P (a0, a1)) s0 s1 x1 x3 x4) := by
  unfold wp_X0_wantSigns
  exact (dt_x (fun n6 m_n6 => (dl_X0_wantSigns_L6 s1 (fun v0 v1 => (dt_r _)) (fun t0 z1 z3 z4 z5 z6 => (dt_r _)) n6 m_n6 s0 x1 x3 x4 0 0)))
set_option maxHeartbeats 4000000 in
theorem dl_X0_scrollUp_L6 (s1 : Tp) {O : Type} {G_post G2_post : Int32 → Bd → (O → Prop) → Prop} {G_e54 G2_e54 : Bd → Int32 → Int32 → Int32 → Int32 → (O → Prop) → Prop} (h_post : ∀ v0 v1, dt (G_post v0 v1) (G2_post v0 v1)) (h_e54 : ∀ v0 v1 v2 v3 v4, dt (G_e54 v0 v1 v2 v3 v4) (G2_e54 v0 v1 v2 v3 v4)) : ∀ (n m : Nat) (t0 : Bd) (z2 : Int32) (z3 : Int32) (z4 : Int32) (z5 : Int32), dt (fun P : O → Prop => wp_X0_scrollUp_L6 s1 (fun v0 v1 => G_post v0 v1 P) (fun v0 v1 v2 v3 v4 => G_e54 v0 v1 v2 v3 v4 P) n t0 z2 z3 z4 z5) (fun P : O → Prop => wp_X0_scrollUp_L6 s1 (fun v0 v1 => G2_post v0 v1 P) (fun v0 v1 v2 v3 v4 => G2_e54 v0 v1 v2 v3 v4 P) m t0 z2 z3 z4 z5) := by
  intro n
  induction n with
  | zero => exact fun _ _ _ _ _ _ => dt_F
  | succ n6 ih =>
    intro m t0 z2 z3 z4 z5
    have key : ∀ m9 : Nat, dt (fun P : O → Prop => wp_X0_scrollUp_L6 s1 (fun v0 v1 => G_post v0 v1 P) (fun v0 v1 v2 v3 v4 => G_e54 v0 v1 v2 v3 v4 P) (n6 + 1) t0 z2 z3 z4 z5) (fun P : O → Prop => wp_X0_scrollUp_L6 s1 (fun v0 v1 => G2_post v0 v1 P) (fun v0 v1 v2 v3 v4 => G2_e54 v0 v1 v2 v3 v4 P) (m9 + 1) t0 z2 z3 z4 z5) := by
      intro m9
      unfold wp_X0_scrollUp_L6
      exact (dt_b1 (F := fun k => wp_X0_cells k t0) (dt_X0_cells t0) (fun r_1 => (dt_p (h_e54 t0 z2 z3 z4 z5) (dt_b1 (F := fun k => wp_X0_wantedSign k t0 (z5 + (t0.1 1))) (dt_X0_wantedSign t0 (z5 + (t0.1 1))) (fun r_4 => (dt_b1 (F := fun k => wp_X0_nearest k t0 z5 r_4) (dt_X0_nearest t0 z5 r_4) (fun r_6 => (dt_b2 (F := fun k => wp_X0_wantFlap k t0 z5 r_6) (dt_X0_wantFlap t0 z5 r_6) (fun r_8 u_9 => (ih m9 u_9 z2 z3 (z4 + r_8) (z5 + 1)))))))))))
    cases m with
    | zero => exact dt_0 (key 0)
    | succ m9 => exact key m9
set_option maxHeartbeats 4000000 in
theorem dt_X0_scrollUp (s0 : Bd) (s1 : Tp) (x2 : Int32) (x3 : Int32) : dt (fun P : (Int32 × Bd) → Prop => wp_X0_scrollUp (fun a0 a1 => P (a0, a1)) s0 s1 x2 x3) (fun P : (Int32 × Bd) → Prop => wp_X0_scrollUp (fun a0 a1 => P (a0, a1)) s0 s1 x2 x3) := by
  unfold wp_X0_scrollUp
  exact (dt_x (fun n6 m_n6 => (dl_X0_scrollUp_L6 s1 (fun v0 v1 => (dt_r _)) (fun t0 z2 z3 z4 z5 => (dt_b2 (F := fun k => wp_X0_wantSigns k t0 s1 ((t0.1 0) - 1) z2 z3) (dt_X0_wantSigns t0 s1 ((t0.1 0) - 1) z2 z3) (fun r_10 u_11 => (dt_r _)))) n6 m_n6 s0 x2 x3 0 0)))
set_option maxHeartbeats 4000000 in
theorem dl_X0_wantHome_L2  {O : Type} {G_post G2_post : Bd → (O → Prop) → Prop} {G_e30 G2_e30 : Bd → Int32 → Int32 → (O → Prop) → Prop} (h_post : ∀ v0, dt (G_post v0) (G2_post v0)) (h_e30 : ∀ v0 v1 v2, dt (G_e30 v0 v1 v2) (G2_e30 v0 v1 v2)) : ∀ (n m : Nat) (t0 : Bd) (z1 : Int32) (z2 : Int32), dt (fun P : O → Prop => wp_X0_wantHome_L2 (fun v0 => G_post v0 P) (fun v0 v1 v2 => G_e30 v0 v1 v2 P) n t0 z1 z2) (fun P : O → Prop => wp_X0_wantHome_L2 (fun v0 => G2_post v0 P) (fun v0 v1 v2 => G2_e30 v0 v1 v2 P) m t0 z1 z2) := by
  intro n
  induction n with
  | zero => exact fun _ _ _ _ => dt_F
  | succ n2 ih =>
    intro m t0 z1 z2
    have key : ∀ m9 : Nat, dt (fun P : O → Prop => wp_X0_wantHome_L2 (fun v0 => G_post v0 P) (fun v0 v1 v2 => G_e30 v0 v1 v2 P) (n2 + 1) t0 z1 z2) (fun P : O → Prop => wp_X0_wantHome_L2 (fun v0 => G2_post v0 P) (fun v0 v1 v2 => G2_e30 v0 v1 v2 P) (m9 + 1) t0 z1 z2) := by
      intro m9
      unfold wp_X0_wantHome_L2
      exact (dt_p (h_e30 t0 z1 z2) (dt_c (ih m9 (t0.1, (va_up t0.2.1 6 (upd (t0.2.1 6) (Int32.toNatClampNeg ((z1 * (t0.1 1)) + z2)) 0)), t0.2.2.1, t0.2.2.2.1, t0.2.2.2.2) z1 (z2 + 1))))
    cases m with
    | zero => exact dt_0 (key 0)
    | succ m9 => exact key m9
set_option maxHeartbeats 4000000 in
theorem dt_X0_wantHome (s0 : Bd) (x1 : Int32) : dt (fun P : Bd → Prop => wp_X0_wantHome (fun a0 => P a0) s0 x1) (fun P : Bd → Prop => wp_X0_wantHome (fun a0 => P a0) s0 x1) := by
  unfold wp_X0_wantHome
  exact (dt_x (fun n2 m_n2 => (dl_X0_wantHome_L2  (fun v0 => (dt_r _)) (fun t0 z1 z2 => (dt_r _)) n2 m_n2 s0 x1 0)))
set_option maxHeartbeats 4000000 in
theorem dl_X0_showSigns_L3 (s1 : Tp) {O : Type} {G_post G2_post : Bd → (O → Prop) → Prop} {G_e86 G2_e86 : Bd → Int32 → Int32 → Int32 → Int32 → (O → Prop) → Prop} (h_post : ∀ v0, dt (G_post v0) (G2_post v0)) (h_e86 : ∀ v0 v1 v2 v3 v4, dt (G_e86 v0 v1 v2 v3 v4) (G2_e86 v0 v1 v2 v3 v4)) : ∀ (n m : Nat) (t0 : Bd) (z1 : Int32) (z3 : Int32) (z4 : Int32) (z5 : Int32), dt (fun P : O → Prop => wp_X0_showSigns_L3 s1 (fun v0 => G_post v0 P) (fun v0 v1 v2 v3 v4 => G_e86 v0 v1 v2 v3 v4 P) n t0 z1 z3 z4 z5) (fun P : O → Prop => wp_X0_showSigns_L3 s1 (fun v0 => G2_post v0 P) (fun v0 v1 v2 v3 v4 => G2_e86 v0 v1 v2 v3 v4 P) m t0 z1 z3 z4 z5) := by
  intro n
  induction n with
  | zero => exact fun _ _ _ _ _ _ => dt_F
  | succ n3 ih =>
    intro m t0 z1 z3 z4 z5
    have key : ∀ m9 : Nat, dt (fun P : O → Prop => wp_X0_showSigns_L3 s1 (fun v0 => G_post v0 P) (fun v0 v1 v2 v3 v4 => G_e86 v0 v1 v2 v3 v4 P) (n3 + 1) t0 z1 z3 z4 z5) (fun P : O → Prop => wp_X0_showSigns_L3 s1 (fun v0 => G2_post v0 P) (fun v0 v1 v2 v3 v4 => G2_e86 v0 v1 v2 v3 v4 P) (m9 + 1) t0 z1 z3 z4 z5) := by
      intro m9
      unfold wp_X0_showSigns_L3
      exact (dt_p (h_e86 t0 z1 z3 z4 z5) (dt_b1 (F := fun k => wp_X0_flapFor k t0 s1 ((z1 * (t0.1 1)) + z5) z5 z3 z4) (dt_X0_flapFor t0 s1 ((z1 * (t0.1 1)) + z5) z5 z3 z4) (fun r_2 => (dt_p (dt_c (dt_c (dt_c (dt_c (ih m9 (t0.1, (va_up (va_up t0.2.1 4 (upd (t0.2.1 4) (Int32.toNatClampNeg ((z1 * (t0.1 1)) + z5)) ((t0.2.1 6) (Int32.toNatClampNeg ((z1 * (t0.1 1)) + z5))))) 5 (upd (t0.2.1 5) (Int32.toNatClampNeg ((z1 * (t0.1 1)) + z5)) ((t0.2.1 6) (Int32.toNatClampNeg ((z1 * (t0.1 1)) + z5))))), t0.2.2.1, t0.2.2.2.1, t0.2.2.2.2) z1 z3 z4 (z5 + 1)))))) (dt_c (dt_c (dt_c (dt_c (dt_c (ih m9 (t0.1, (va_up (va_up (va_up t0.2.1 4 (upd (t0.2.1 4) (Int32.toNatClampNeg ((z1 * (t0.1 1)) + z5)) ((upd (t0.2.1 6) (Int32.toNatClampNeg ((z1 * (t0.1 1)) + z5)) r_2) (Int32.toNatClampNeg ((z1 * (t0.1 1)) + z5))))) 5 (upd (t0.2.1 5) (Int32.toNatClampNeg ((z1 * (t0.1 1)) + z5)) ((upd (t0.2.1 6) (Int32.toNatClampNeg ((z1 * (t0.1 1)) + z5)) r_2) (Int32.toNatClampNeg ((z1 * (t0.1 1)) + z5))))) 6 (upd (t0.2.1 6) (Int32.toNatClampNeg ((z1 * (t0.1 1)) + z5)) r_2)), t0.2.2.1, t0.2.2.2.1, t0.2.2.2.2) z1 z3 z4 (z5 + 1)))))))))))
    cases m with
    | zero => exact dt_0 (key 0)
    | succ m9 => exact key m9
set_option maxHeartbeats 4000000 in
theorem dt_X0_showSigns (s0 : Bd) (s1 : Tp) (x1 : Int32) (x3 : Int32) (x4 : Int32) : dt (fun P : Bd → Prop => wp_X0_showSigns (fun a0 => P a0) s0 s1 x1 x3 x4) (fun P : Bd → Prop => wp_X0_showSigns (fun a0 => P a0) s0 s1 x1 x3 x4) := by
  unfold wp_X0_showSigns
  exact (dt_x (fun n3 m_n3 => (dl_X0_showSigns_L3 s1 (fun v0 => (dt_r _)) (fun t0 z1 z3 z4 z5 => (dt_r _)) n3 m_n3 s0 x1 x3 x4 0)))
set_option maxHeartbeats 4000000 in
theorem dt_X6_behind (x0 : Int32) (x1 : Int32) : dt (fun P : Int32 → Prop => wp_X6_behind (fun a0 => P a0) x0 x1) (fun P : Int32 → Prop => wp_X6_behind (fun a0 => P a0) x0 x1) := by
  unfold wp_X6_behind
  exact (dt_p (dt_r _) (dt_r _))
set_option maxHeartbeats 4000000 in
theorem dt_X0_stepOn (s0 : Bd) (x1 : Int32) : dt (fun P : (Int32 × Bd) → Prop => wp_X0_stepOn (fun a0 a1 => P (a0, a1)) s0 x1) (fun P : (Int32 × Bd) → Prop => wp_X0_stepOn (fun a0 a1 => P (a0, a1)) s0 x1) := by
  unfold wp_X0_stepOn
  exact (dt_b1 (F := fun k => wp_X0_flapsOf k s0 x1) (dt_X0_flapsOf s0 x1) (fun r_1 => (dt_c (dt_b1 (F := fun k => wp_X6_behind k ((s0.2.1 5) (Int32.toNatClampNeg x1)) r_1) (dt_X6_behind ((s0.2.1 5) (Int32.toNatClampNeg x1)) r_1) (fun r_4 => (dt_c (dt_p (dt_c (dt_b1 (F := fun k => wp_X6_behind k ((s0.2.1 4) (Int32.toNatClampNeg x1)) r_1) (dt_X6_behind ((s0.2.1 4) (Int32.toNatClampNeg x1)) r_1) (fun r_9 => (dt_c (dt_c (dt_n (dt_c (dt_c (dt_c (dt_c (dt_c (dt_r _)))))) (dt_c (dt_c (dt_c (dt_c (dt_c (dt_r _)))))))))))) (dt_c (dt_c (dt_c (dt_c (dt_c (dt_c (dt_c (dt_r _)))))))))))))))
set_option maxHeartbeats 4000000 in
theorem dl_X0_leftOfAll_L4 (s0 : Bd) {O : Type} {G_post G2_post : Int32 → (O → Prop) → Prop} {G_e40 G2_e40 : Int32 → Int32 → Int32 → (O → Prop) → Prop} (h_post : ∀ v0, dt (G_post v0) (G2_post v0)) (h_e40 : ∀ v0 v1 v2, dt (G_e40 v0 v1 v2) (G2_e40 v0 v1 v2)) : ∀ (n m : Nat) (z1 : Int32) (z2 : Int32) (z3 : Int32), dt (fun P : O → Prop => wp_X0_leftOfAll_L4 s0 (fun v0 => G_post v0 P) (fun v0 v1 v2 => G_e40 v0 v1 v2 P) n z1 z2 z3) (fun P : O → Prop => wp_X0_leftOfAll_L4 s0 (fun v0 => G2_post v0 P) (fun v0 v1 v2 => G2_e40 v0 v1 v2 P) m z1 z2 z3) := by
  intro n
  induction n with
  | zero => exact fun _ _ _ _ => dt_F
  | succ n4 ih =>
    intro m z1 z2 z3
    have key : ∀ m9 : Nat, dt (fun P : O → Prop => wp_X0_leftOfAll_L4 s0 (fun v0 => G_post v0 P) (fun v0 v1 v2 => G_e40 v0 v1 v2 P) (n4 + 1) z1 z2 z3) (fun P : O → Prop => wp_X0_leftOfAll_L4 s0 (fun v0 => G2_post v0 P) (fun v0 v1 v2 => G2_e40 v0 v1 v2 P) (m9 + 1) z1 z2 z3) := by
      intro m9
      unfold wp_X0_leftOfAll_L4
      exact (dt_b1 (F := fun k => wp_X0_cells k s0) (dt_X0_cells s0) (fun r_1 => (dt_p (h_e40 z1 z2 z3) (dt_b1 (F := fun k => wp_X0_leftOf k s0 z3) (dt_X0_leftOf s0 z3) (fun r_4 => (dt_p (ih m9 z1 (z2 + (r_4 * 1)) (z3 + 1)) (dt_b1 (F := fun k => wp_X0_currentOf k s0 z3) (dt_X0_currentOf s0 z3) (fun r_7 => (ih m9 z1 (z2 + (r_4 * r_7)) (z3 + 1))))))))))
    cases m with
    | zero => exact dt_0 (key 0)
    | succ m9 => exact key m9
set_option maxHeartbeats 4000000 in
theorem dt_X0_leftOfAll (s0 : Bd) (x1 : Int32) : dt (fun P : Int32 → Prop => wp_X0_leftOfAll (fun a0 => P a0) s0 x1) (fun P : Int32 → Prop => wp_X0_leftOfAll (fun a0 => P a0) s0 x1) := by
  unfold wp_X0_leftOfAll
  exact (dt_x (fun n4 m_n4 => (dl_X0_leftOfAll_L4 s0 (fun v0 => (dt_r _)) (fun z1 z2 z3 => (dt_r _)) n4 m_n4 x1 0 0)))
set_option maxHeartbeats 4000000 in
theorem dl_X0_mostLeft_L4 (s0 : Bd) {O : Type} {G_post G2_post : Int32 → (O → Prop) → Prop} {G_e28 G2_e28 : Int32 → Int32 → (O → Prop) → Prop} (h_post : ∀ v0, dt (G_post v0) (G2_post v0)) (h_e28 : ∀ v0 v1, dt (G_e28 v0 v1) (G2_e28 v0 v1)) : ∀ (n m : Nat) (z1 : Int32) (z2 : Int32), dt (fun P : O → Prop => wp_X0_mostLeft_L4 s0 (fun v0 => G_post v0 P) (fun v0 v1 => G_e28 v0 v1 P) n z1 z2) (fun P : O → Prop => wp_X0_mostLeft_L4 s0 (fun v0 => G2_post v0 P) (fun v0 v1 => G2_e28 v0 v1 P) m z1 z2) := by
  intro n
  induction n with
  | zero => exact fun _ _ _ => dt_F
  | succ n4 ih =>
    intro m z1 z2
    have key : ∀ m9 : Nat, dt (fun P : O → Prop => wp_X0_mostLeft_L4 s0 (fun v0 => G_post v0 P) (fun v0 v1 => G_e28 v0 v1 P) (n4 + 1) z1 z2) (fun P : O → Prop => wp_X0_mostLeft_L4 s0 (fun v0 => G2_post v0 P) (fun v0 v1 => G2_e28 v0 v1 P) (m9 + 1) z1 z2) := by
      intro m9
      unfold wp_X0_mostLeft_L4
      exact (dt_b1 (F := fun k => wp_X0_cells k s0) (dt_X0_cells s0) (fun r_1 => (dt_p (h_e28 z1 z2) (dt_b1 (F := fun k => wp_X0_leftOf k s0 z2) (dt_X0_leftOf s0 z2) (fun r_4 => (ih m9 (if (z1 < r_4) then r_4 else z1) (z2 + 1)))))))
    cases m with
    | zero => exact dt_0 (key 0)
    | succ m9 => exact key m9
set_option maxHeartbeats 4000000 in
theorem dt_X0_mostLeft (s0 : Bd) : dt (fun P : Int32 → Prop => wp_X0_mostLeft (fun a0 => P a0) s0) (fun P : Int32 → Prop => wp_X0_mostLeft (fun a0 => P a0) s0) := by
  unfold wp_X0_mostLeft
  exact (dt_x (fun n4 m_n4 => (dl_X0_mostLeft_L4 s0 (fun v0 => (dt_r _)) (fun z1 z2 => (dt_r _)) n4 m_n4 0 0)))
set_option maxHeartbeats 4000000 in
theorem dt_X0_emptyLog (s0 : Bd) : dt (fun P : Bd → Prop => wp_X0_emptyLog (fun a0 => P a0) s0) (fun P : Bd → Prop => wp_X0_emptyLog (fun a0 => P a0) s0) := by
  unfold wp_X0_emptyLog
  exact (dt_b1 (F := fun k => wp_X0_entryCount k s0) (dt_X0_entryCount s0) (fun r_1 => (dt_p (dt_c (dt_r _)) (dt_c (dt_c (dt_r _))))))
set_option maxHeartbeats 4000000 in
theorem dt_X0_entryAt (s0 : Bd) (x1 : Int32) (x2 : Int32) (x3 : Int32) (x4 : Int32) : dt (fun P : Int32 → Prop => wp_X0_entryAt (fun a0 => P a0) s0 x1 x2 x3 x4) (fun P : Int32 → Prop => wp_X0_entryAt (fun a0 => P a0) s0 x1 x2 x3 x4) := by
  unfold wp_X0_entryAt
  exact (dt_p (dt_r _) (dt_p (dt_r _) (dt_c (dt_r _))))
set_option maxHeartbeats 4000000 in
theorem dl_X0_journey_L27 (s0 : Bd) {O : Type} {G_post G2_post : Int32 → (O → Prop) → Prop} {G_e63 G2_e63 : Int32 → Int32 → Int32 → Int32 → Int32 → Int32 → (O → Prop) → Prop} (h_post : ∀ v0, dt (G_post v0) (G2_post v0)) (h_e63 : ∀ v0 v1 v2 v3 v4 v5, dt (G_e63 v0 v1 v2 v3 v4 v5) (G2_e63 v0 v1 v2 v3 v4 v5)) : ∀ (n m : Nat) (z1 : Int32) (z2 : Int32) (z3 : Int32) (z4 : Int32) (z5 : Int32) (z6 : Int32), dt (fun P : O → Prop => wp_X0_journey_L27 s0 (fun v0 => G_post v0 P) (fun v0 v1 v2 v3 v4 v5 => G_e63 v0 v1 v2 v3 v4 v5 P) n z1 z2 z3 z4 z5 z6) (fun P : O → Prop => wp_X0_journey_L27 s0 (fun v0 => G2_post v0 P) (fun v0 v1 v2 v3 v4 v5 => G2_e63 v0 v1 v2 v3 v4 v5 P) m z1 z2 z3 z4 z5 z6) := by
  intro n
  induction n with
  | zero => exact fun _ _ _ _ _ _ _ => dt_F
  | succ n27 ih =>
    intro m z1 z2 z3 z4 z5 z6
    have key : ∀ m9 : Nat, dt (fun P : O → Prop => wp_X0_journey_L27 s0 (fun v0 => G_post v0 P) (fun v0 v1 v2 v3 v4 v5 => G_e63 v0 v1 v2 v3 v4 v5 P) (n27 + 1) z1 z2 z3 z4 z5 z6) (fun P : O → Prop => wp_X0_journey_L27 s0 (fun v0 => G2_post v0 P) (fun v0 v1 v2 v3 v4 v5 => G2_e63 v0 v1 v2 v3 v4 v5 P) (m9 + 1) z1 z2 z3 z4 z5 z6) := by
      intro m9
      unfold wp_X0_journey_L27
      exact (dt_p (h_e63 z1 z2 z3 z4 z5 z6) (dt_b1 (F := fun k => wp_X0_entryAt k s0 z2 z3 z5 z6) (dt_X0_entryAt s0 z2 z3 z5 z6) (fun r_7 => (dt_b1 (F := fun k => wp_X6_onFrom k z5 z6 z3) (dt_X6_onFrom z5 z6 z3) (fun r_9 => (ih m9 z1 z2 z3 (z4 + (r_7 * r_9)) z5 (z6 + 1)))))))
    cases m with
    | zero => exact dt_0 (key 0)
    | succ m9 => exact key m9
set_option maxHeartbeats 4000000 in
theorem dl_X0_journey_L18 (s0 : Bd) {O : Type} {G_post G2_post : Int32 → (O → Prop) → Prop} {G_e69 G2_e69 : Int32 → Int32 → Int32 → Int32 → Int32 → (O → Prop) → Prop} (h_post : ∀ v0, dt (G_post v0) (G2_post v0)) (h_e69 : ∀ v0 v1 v2 v3 v4, dt (G_e69 v0 v1 v2 v3 v4) (G2_e69 v0 v1 v2 v3 v4)) : ∀ (n m : Nat) (z1 : Int32) (z2 : Int32) (z3 : Int32) (z4 : Int32) (z5 : Int32), dt (fun P : O → Prop => wp_X0_journey_L18 s0 (fun v0 => G_post v0 P) (fun v0 v1 v2 v3 v4 => G_e69 v0 v1 v2 v3 v4 P) n z1 z2 z3 z4 z5) (fun P : O → Prop => wp_X0_journey_L18 s0 (fun v0 => G2_post v0 P) (fun v0 v1 v2 v3 v4 => G2_e69 v0 v1 v2 v3 v4 P) m z1 z2 z3 z4 z5) := by
  intro n
  induction n with
  | zero => exact fun _ _ _ _ _ _ => dt_F
  | succ n18 ih =>
    intro m z1 z2 z3 z4 z5
    have key : ∀ m9 : Nat, dt (fun P : O → Prop => wp_X0_journey_L18 s0 (fun v0 => G_post v0 P) (fun v0 v1 v2 v3 v4 => G_e69 v0 v1 v2 v3 v4 P) (n18 + 1) z1 z2 z3 z4 z5) (fun P : O → Prop => wp_X0_journey_L18 s0 (fun v0 => G2_post v0 P) (fun v0 v1 v2 v3 v4 => G2_e69 v0 v1 v2 v3 v4 P) (m9 + 1) z1 z2 z3 z4 z5) := by
      intro m9
      unfold wp_X0_journey_L18
      exact (dt_p (h_e69 z1 z2 z3 z4 z5) (dt_x (fun n27 m_n27 => (dl_X0_journey_L27 s0 (fun v0 => (h_post v0)) (fun z1 z2 z3 z4 z5 z6 => (ih m9 z1 z2 z3 z4 (z5 + 1))) n27 m_n27 z1 z2 z3 z4 z5 0))))
    cases m with
    | zero => exact dt_0 (key 0)
    | succ m9 => exact key m9
set_option maxHeartbeats 4000000 in
theorem dt_X0_journey (s0 : Bd) (x1 : Int32) : dt (fun P : Int32 → Prop => wp_X0_journey (fun a0 => P a0) s0 x1) (fun P : Int32 → Prop => wp_X0_journey (fun a0 => P a0) s0 x1) := by
  unfold wp_X0_journey
  exact (dt_b1 (F := fun k => wp_X0_entryStart k s0 x1) (dt_X0_entryStart s0 x1) (fun r_1 => (dt_b1 (F := fun k => wp_X0_flapsOn k s0 x1) (dt_X0_flapsOn s0 x1) (fun r_3 => (dt_x (fun n18 m_n18 => (dl_X0_journey_L18 s0 (fun v0 => (dt_r _)) (fun z1 z2 z3 z4 z5 => (dt_r _)) n18 m_n18 x1 r_1 r_3 0 0)))))))
set_option maxHeartbeats 4000000 in
theorem dl_X0_entriesOf_L20 (s0 : Bd) {O : Type} {G_post G2_post : Int32 → (O → Prop) → Prop} {G_e67 G2_e67 : Int32 → Int32 → Int32 → Int32 → Int32 → Int32 → Int32 → (O → Prop) → Prop} (h_post : ∀ v0, dt (G_post v0) (G2_post v0)) (h_e67 : ∀ v0 v1 v2 v3 v4 v5 v6, dt (G_e67 v0 v1 v2 v3 v4 v5 v6) (G2_e67 v0 v1 v2 v3 v4 v5 v6)) : ∀ (n m : Nat) (z1 : Int32) (z2 : Int32) (z3 : Int32) (z4 : Int32) (z5 : Int32) (z6 : Int32) (z7 : Int32), dt (fun P : O → Prop => wp_X0_entriesOf_L20 s0 (fun v0 => G_post v0 P) (fun v0 v1 v2 v3 v4 v5 v6 => G_e67 v0 v1 v2 v3 v4 v5 v6 P) n z1 z2 z3 z4 z5 z6 z7) (fun P : O → Prop => wp_X0_entriesOf_L20 s0 (fun v0 => G2_post v0 P) (fun v0 v1 v2 v3 v4 v5 v6 => G2_e67 v0 v1 v2 v3 v4 v5 v6 P) m z1 z2 z3 z4 z5 z6 z7) := by
  intro n
  induction n with
  | zero => exact fun _ _ _ _ _ _ _ _ => dt_F
  | succ n20 ih =>
    intro m z1 z2 z3 z4 z5 z6 z7
    have key : ∀ m9 : Nat, dt (fun P : O → Prop => wp_X0_entriesOf_L20 s0 (fun v0 => G_post v0 P) (fun v0 v1 v2 v3 v4 v5 v6 => G_e67 v0 v1 v2 v3 v4 v5 v6 P) (n20 + 1) z1 z2 z3 z4 z5 z6 z7) (fun P : O → Prop => wp_X0_entriesOf_L20 s0 (fun v0 => G2_post v0 P) (fun v0 v1 v2 v3 v4 v5 v6 => G2_e67 v0 v1 v2 v3 v4 v5 v6 P) (m9 + 1) z1 z2 z3 z4 z5 z6 z7) := by
      intro m9
      unfold wp_X0_entriesOf_L20
      exact (dt_p (h_e67 z1 z2 z3 z4 z5 z6 z7) (dt_p (dt_b1 (F := fun k => wp_X0_entryAt k s0 z4 z5 z2 z7) (dt_X0_entryAt s0 z4 z5 z2 z7) (fun r_7 => (ih m9 z1 z2 z3 z4 z5 (z6 + r_7) (z7 + 1)))) (dt_b1 (F := fun k => wp_X0_entryAt k s0 z4 z5 z7 z2) (dt_X0_entryAt s0 z4 z5 z7 z2) (fun r_9 => (ih m9 z1 z2 z3 z4 z5 (z6 + r_9) (z7 + 1))))))
    cases m with
    | zero => exact dt_0 (key 0)
    | succ m9 => exact key m9
set_option maxHeartbeats 4000000 in
theorem dt_X0_entriesOf (s0 : Bd) (x1 : Int32) (x2 : Int32) (x3 : Int32) : dt (fun P : Int32 → Prop => wp_X0_entriesOf (fun a0 => P a0) s0 x1 x2 x3) (fun P : Int32 → Prop => wp_X0_entriesOf (fun a0 => P a0) s0 x1 x2 x3) := by
  unfold wp_X0_entriesOf
  exact (dt_b1 (F := fun k => wp_X0_entryStart k s0 x1) (dt_X0_entryStart s0 x1) (fun r_1 => (dt_b1 (F := fun k => wp_X0_flapsOn k s0 x1) (dt_X0_flapsOn s0 x1) (fun r_3 => (dt_x (fun n20 m_n20 => (dl_X0_entriesOf_L20 s0 (fun v0 => (dt_r _)) (fun z1 z2 z3 z4 z5 z6 z7 => (dt_r _)) n20 m_n20 x1 x2 x3 r_1 r_3 0 0)))))))
set_option maxHeartbeats 4000000 in
theorem dl_X0_logSize_L4 (s0 : Bd) {O : Type} {G_post G2_post : Int32 → (O → Prop) → Prop} {G_e29 G2_e29 : Int32 → Int32 → Int32 → (O → Prop) → Prop} (h_post : ∀ v0, dt (G_post v0) (G2_post v0)) (h_e29 : ∀ v0 v1 v2, dt (G_e29 v0 v1 v2) (G2_e29 v0 v1 v2)) : ∀ (n m : Nat) (z1 : Int32) (z2 : Int32) (z3 : Int32), dt (fun P : O → Prop => wp_X0_logSize_L4 s0 (fun v0 => G_post v0 P) (fun v0 v1 v2 => G_e29 v0 v1 v2 P) n z1 z2 z3) (fun P : O → Prop => wp_X0_logSize_L4 s0 (fun v0 => G2_post v0 P) (fun v0 v1 v2 => G2_e29 v0 v1 v2 P) m z1 z2 z3) := by
  intro n
  induction n with
  | zero => exact fun _ _ _ _ => dt_F
  | succ n4 ih =>
    intro m z1 z2 z3
    have key : ∀ m9 : Nat, dt (fun P : O → Prop => wp_X0_logSize_L4 s0 (fun v0 => G_post v0 P) (fun v0 v1 v2 => G_e29 v0 v1 v2 P) (n4 + 1) z1 z2 z3) (fun P : O → Prop => wp_X0_logSize_L4 s0 (fun v0 => G2_post v0 P) (fun v0 v1 v2 => G2_e29 v0 v1 v2 P) (m9 + 1) z1 z2 z3) := by
      intro m9
      unfold wp_X0_logSize_L4
      exact (dt_b1 (F := fun k => wp_X0_flapsOn k s0 z1) (dt_X0_flapsOn s0 z1) (fun r_1 => (dt_p (h_e29 z1 z2 z3) (dt_b1 (F := fun k => wp_X0_entriesOf k s0 z1 z3 (1 : Int32)) (dt_X0_entriesOf s0 z1 z3 (1 : Int32)) (fun r_4 => (ih m9 z1 (z2 + r_4) (z3 + 1)))))))
    cases m with
    | zero => exact dt_0 (key 0)
    | succ m9 => exact key m9
set_option maxHeartbeats 4000000 in
theorem dt_X0_logSize (s0 : Bd) (x1 : Int32) : dt (fun P : Int32 → Prop => wp_X0_logSize (fun a0 => P a0) s0 x1) (fun P : Int32 → Prop => wp_X0_logSize (fun a0 => P a0) s0 x1) := by
  unfold wp_X0_logSize
  exact (dt_x (fun n4 m_n4 => (dl_X0_logSize_L4 s0 (fun v0 => (dt_r _)) (fun z1 z2 z3 => (dt_r _)) n4 m_n4 x1 0 0)))
set_option maxHeartbeats 4000000 in
theorem dl_X0_unlikeEntries_L27 (s0 : Bd) {O : Type} {G_post G2_post : Int32 → (O → Prop) → Prop} {G_e55 G2_e55 : Int32 → Int32 → Int32 → Int32 → Int32 → Int32 → (O → Prop) → Prop} (h_post : ∀ v0, dt (G_post v0) (G2_post v0)) (h_e55 : ∀ v0 v1 v2 v3 v4 v5, dt (G_e55 v0 v1 v2 v3 v4 v5) (G2_e55 v0 v1 v2 v3 v4 v5)) : ∀ (n m : Nat) (z1 : Int32) (z2 : Int32) (z3 : Int32) (z4 : Int32) (z5 : Int32) (z6 : Int32), dt (fun P : O → Prop => wp_X0_unlikeEntries_L27 s0 (fun v0 => G_post v0 P) (fun v0 v1 v2 v3 v4 v5 => G_e55 v0 v1 v2 v3 v4 v5 P) n z1 z2 z3 z4 z5 z6) (fun P : O → Prop => wp_X0_unlikeEntries_L27 s0 (fun v0 => G2_post v0 P) (fun v0 v1 v2 v3 v4 v5 => G2_e55 v0 v1 v2 v3 v4 v5 P) m z1 z2 z3 z4 z5 z6) := by
  intro n
  induction n with
  | zero => exact fun _ _ _ _ _ _ _ => dt_F
  | succ n27 ih =>
    intro m z1 z2 z3 z4 z5 z6
    have key : ∀ m9 : Nat, dt (fun P : O → Prop => wp_X0_unlikeEntries_L27 s0 (fun v0 => G_post v0 P) (fun v0 v1 v2 v3 v4 v5 => G_e55 v0 v1 v2 v3 v4 v5 P) (n27 + 1) z1 z2 z3 z4 z5 z6) (fun P : O → Prop => wp_X0_unlikeEntries_L27 s0 (fun v0 => G2_post v0 P) (fun v0 v1 v2 v3 v4 v5 => G2_e55 v0 v1 v2 v3 v4 v5 P) (m9 + 1) z1 z2 z3 z4 z5 z6) := by
      intro m9
      unfold wp_X0_unlikeEntries_L27
      exact (dt_p (h_e55 z1 z2 z3 z4 z5 z6) (dt_b1 (F := fun k => wp_X0_entryAt k s0 z2 z3 z5 z6) (dt_X0_entryAt s0 z2 z3 z5 z6) (fun r_7 => (dt_p (ih m9 z1 z2 z3 z4 z5 (z6 + 1)) (ih m9 z1 z2 z3 (z4 + 1) z5 (z6 + 1))))))
    cases m with
    | zero => exact dt_0 (key 0)
    | succ m9 => exact key m9
set_option maxHeartbeats 4000000 in
theorem dl_X0_unlikeEntries_L18 (s0 : Bd) {O : Type} {G_post G2_post : Int32 → (O → Prop) → Prop} {G_e61 G2_e61 : Int32 → Int32 → Int32 → Int32 → Int32 → (O → Prop) → Prop} (h_post : ∀ v0, dt (G_post v0) (G2_post v0)) (h_e61 : ∀ v0 v1 v2 v3 v4, dt (G_e61 v0 v1 v2 v3 v4) (G2_e61 v0 v1 v2 v3 v4)) : ∀ (n m : Nat) (z1 : Int32) (z2 : Int32) (z3 : Int32) (z4 : Int32) (z5 : Int32), dt (fun P : O → Prop => wp_X0_unlikeEntries_L18 s0 (fun v0 => G_post v0 P) (fun v0 v1 v2 v3 v4 => G_e61 v0 v1 v2 v3 v4 P) n z1 z2 z3 z4 z5) (fun P : O → Prop => wp_X0_unlikeEntries_L18 s0 (fun v0 => G2_post v0 P) (fun v0 v1 v2 v3 v4 => G2_e61 v0 v1 v2 v3 v4 P) m z1 z2 z3 z4 z5) := by
  intro n
  induction n with
  | zero => exact fun _ _ _ _ _ _ => dt_F
  | succ n18 ih =>
    intro m z1 z2 z3 z4 z5
    have key : ∀ m9 : Nat, dt (fun P : O → Prop => wp_X0_unlikeEntries_L18 s0 (fun v0 => G_post v0 P) (fun v0 v1 v2 v3 v4 => G_e61 v0 v1 v2 v3 v4 P) (n18 + 1) z1 z2 z3 z4 z5) (fun P : O → Prop => wp_X0_unlikeEntries_L18 s0 (fun v0 => G2_post v0 P) (fun v0 v1 v2 v3 v4 => G2_e61 v0 v1 v2 v3 v4 P) (m9 + 1) z1 z2 z3 z4 z5) := by
      intro m9
      unfold wp_X0_unlikeEntries_L18
      exact (dt_p (h_e61 z1 z2 z3 z4 z5) (dt_x (fun n27 m_n27 => (dl_X0_unlikeEntries_L27 s0 (fun v0 => (h_post v0)) (fun z1 z2 z3 z4 z5 z6 => (ih m9 z1 z2 z3 z4 (z5 + 1))) n27 m_n27 z1 z2 z3 z4 z5 0))))
    cases m with
    | zero => exact dt_0 (key 0)
    | succ m9 => exact key m9
set_option maxHeartbeats 4000000 in
theorem dt_X0_unlikeEntries (s0 : Bd) (x1 : Int32) : dt (fun P : Int32 → Prop => wp_X0_unlikeEntries (fun a0 => P a0) s0 x1) (fun P : Int32 → Prop => wp_X0_unlikeEntries (fun a0 => P a0) s0 x1) := by
  unfold wp_X0_unlikeEntries
  exact (dt_b1 (F := fun k => wp_X0_entryStart k s0 x1) (dt_X0_entryStart s0 x1) (fun r_1 => (dt_b1 (F := fun k => wp_X0_flapsOn k s0 x1) (dt_X0_flapsOn s0 x1) (fun r_3 => (dt_x (fun n18 m_n18 => (dl_X0_unlikeEntries_L18 s0 (fun v0 => (dt_r _)) (fun z1 z2 z3 z4 z5 => (dt_r _)) n18 m_n18 x1 r_1 r_3 0 0)))))))
set_option maxHeartbeats 4000000 in
theorem dl_X0_journeyChange_L60 (s0 : Bd) {O : Type} {G_post G2_post : Int32 → (O → Prop) → Prop} {G_e185 G2_e185 : Int32 → Int32 → Int32 → Int32 → Int32 → Int32 → Int32 → Int32 → (O → Prop) → Prop} (h_post : ∀ v0, dt (G_post v0) (G2_post v0)) (h_e185 : ∀ v0 v1 v2 v3 v4 v5 v6 v7, dt (G_e185 v0 v1 v2 v3 v4 v5 v6 v7) (G2_e185 v0 v1 v2 v3 v4 v5 v6 v7)) : ∀ (n m : Nat) (z1 : Int32) (z2 : Int32) (z3 : Int32) (z4 : Int32) (z5 : Int32) (z6 : Int32) (z7 : Int32) (z8 : Int32), dt (fun P : O → Prop => wp_X0_journeyChange_L60 s0 (fun v0 => G_post v0 P) (fun v0 v1 v2 v3 v4 v5 v6 v7 => G_e185 v0 v1 v2 v3 v4 v5 v6 v7 P) n z1 z2 z3 z4 z5 z6 z7 z8) (fun P : O → Prop => wp_X0_journeyChange_L60 s0 (fun v0 => G2_post v0 P) (fun v0 v1 v2 v3 v4 v5 v6 v7 => G2_e185 v0 v1 v2 v3 v4 v5 v6 v7 P) m z1 z2 z3 z4 z5 z6 z7 z8) := by
  intro n
  induction n with
  | zero => exact fun _ _ _ _ _ _ _ _ _ => dt_F
  | succ n60 ih =>
    intro m z1 z2 z3 z4 z5 z6 z7 z8
    have key : ∀ m9 : Nat, dt (fun P : O → Prop => wp_X0_journeyChange_L60 s0 (fun v0 => G_post v0 P) (fun v0 v1 v2 v3 v4 v5 v6 v7 => G_e185 v0 v1 v2 v3 v4 v5 v6 v7 P) (n60 + 1) z1 z2 z3 z4 z5 z6 z7 z8) (fun P : O → Prop => wp_X0_journeyChange_L60 s0 (fun v0 => G2_post v0 P) (fun v0 v1 v2 v3 v4 v5 v6 v7 => G2_e185 v0 v1 v2 v3 v4 v5 v6 v7 P) (m9 + 1) z1 z2 z3 z4 z5 z6 z7 z8) := by
      intro m9
      unfold wp_X0_journeyChange_L60
      exact (dt_p (h_e185 z1 z2 z3 z4 z5 z6 z7 z8) (dt_p (ih m9 z1 z2 z3 z4 z5 z6 z7 (z8 + 1)) (dt_p (ih m9 z1 z2 z3 z4 z5 z6 z7 (z8 + 1)) (dt_b1 (F := fun k => wp_X0_entryAt k s0 z4 z5 z2 z8) (dt_X0_entryAt s0 z4 z5 z2 z8) (fun r_16 => (dt_b1 (F := fun k => wp_X0_entryAt k s0 z4 z5 z3 z8) (dt_X0_entryAt s0 z4 z5 z3 z8) (fun r_18 => (dt_b1 (F := fun k => wp_X0_entryAt k s0 z4 z5 z8 z2) (dt_X0_entryAt s0 z4 z5 z8 z2) (fun r_20 => (dt_b1 (F := fun k => wp_X0_entryAt k s0 z4 z5 z8 z3) (dt_X0_entryAt s0 z4 z5 z8 z3) (fun r_22 => (dt_b1 (F := fun k => wp_X6_onFrom k z3 z8 z5) (dt_X6_onFrom z3 z8 z5) (fun r_24 => (dt_b1 (F := fun k => wp_X6_onFrom k z2 z8 z5) (dt_X6_onFrom z2 z8 z5) (fun r_26 => (dt_b1 (F := fun k => wp_X6_onFrom k z8 z3 z5) (dt_X6_onFrom z8 z3 z5) (fun r_28 => (dt_b1 (F := fun k => wp_X6_onFrom k z8 z2 z5) (dt_X6_onFrom z8 z2 z5) (fun r_30 => (ih m9 z1 z2 z3 z4 z5 z6 ((z7 + ((r_16 - r_18) * (r_24 - r_26))) + ((r_20 - r_22) * (r_28 - r_30))) (z8 + 1)))))))))))))))))))))
    cases m with
    | zero => exact dt_0 (key 0)
    | succ m9 => exact key m9
set_option maxHeartbeats 4000000 in
theorem dt_X0_journeyChange (s0 : Bd) (x1 : Int32) (x2 : Int32) (x3 : Int32) : dt (fun P : Int32 → Prop => wp_X0_journeyChange (fun a0 => P a0) s0 x1 x2 x3) (fun P : Int32 → Prop => wp_X0_journeyChange (fun a0 => P a0) s0 x1 x2 x3) := by
  unfold wp_X0_journeyChange
  exact (dt_b1 (F := fun k => wp_X0_entryStart k s0 x1) (dt_X0_entryStart s0 x1) (fun r_1 => (dt_b1 (F := fun k => wp_X0_flapsOn k s0 x1) (dt_X0_flapsOn s0 x1) (fun r_3 => (dt_b1 (F := fun k => wp_X0_entryAt k s0 r_1 r_3 x2 x3) (dt_X0_entryAt s0 r_1 r_3 x2 x3) (fun r_5 => (dt_b1 (F := fun k => wp_X0_entryAt k s0 r_1 r_3 x3 x2) (dt_X0_entryAt s0 r_1 r_3 x3 x2) (fun r_7 => (dt_b1 (F := fun k => wp_X6_onFrom k x3 x2 r_3) (dt_X6_onFrom x3 x2 r_3) (fun r_9 => (dt_b1 (F := fun k => wp_X6_onFrom k x2 x3 r_3) (dt_X6_onFrom x2 x3 r_3) (fun r_11 => (dt_x (fun n60 m_n60 => (dl_X0_journeyChange_L60 s0 (fun v0 => (dt_r _)) (fun z1 z2 z3 z4 z5 z6 z7 z8 => (dt_r _)) n60 m_n60 x1 x2 x3 r_1 r_3 (r_5 - r_7) ((r_5 - r_7) * (r_9 - r_11)) 0)))))))))))))))
set_option maxHeartbeats 4000000 in
theorem dt_X5_startReading (s0 : Tp) : dt (fun P : Tp → Prop => wp_X5_startReading (fun a0 => P a0) s0) (fun P : Tp → Prop => wp_X5_startReading (fun a0 => P a0) s0) := by
  unfold wp_X5_startReading
  exact (dt_r _)
set_option maxHeartbeats 4000000 in
theorem dl_X5_peek_L0  {O : Type} {G_post G2_post : Int32 → Tp → (O → Prop) → Prop} {G_e38 G2_e38 : Tp → (O → Prop) → Prop} (h_post : ∀ v0 v1, dt (G_post v0 v1) (G2_post v0 v1)) (h_e38 : ∀ v0, dt (G_e38 v0) (G2_e38 v0)) : ∀ (n m : Nat) (t0 : Tp), dt (fun P : O → Prop => wp_X5_peek_L0 (fun v0 v1 => G_post v0 v1 P) (fun v0 => G_e38 v0 P) n t0) (fun P : O → Prop => wp_X5_peek_L0 (fun v0 v1 => G2_post v0 v1 P) (fun v0 => G2_e38 v0 P) m t0) := by
  intro n
  induction n with
  | zero => exact fun _ _ => dt_F
  | succ n0 ih =>
    intro m t0
    have key : ∀ m9 : Nat, dt (fun P : O → Prop => wp_X5_peek_L0 (fun v0 v1 => G_post v0 v1 P) (fun v0 => G_e38 v0 P) (n0 + 1) t0) (fun P : O → Prop => wp_X5_peek_L0 (fun v0 v1 => G2_post v0 v1 P) (fun v0 => G2_e38 v0 P) (m9 + 1) t0) := by
      intro m9
      unfold wp_X5_peek_L0
      exact (dt_p (h_e38 t0) (dt_c (dt_n (h_e38 t0) (ih m9 ((va_up t0.1 1 ((t0.1 1) + 1)), t0.2)))))
    cases m with
    | zero => exact dt_0 (key 0)
    | succ m9 => exact key m9
set_option maxHeartbeats 4000000 in
theorem dt_X5_peek (s0 : Tp) : dt (fun P : (Int32 × Tp) → Prop => wp_X5_peek (fun a0 a1 => P (a0, a1)) s0) (fun P : (Int32 × Tp) → Prop => wp_X5_peek (fun a0 a1 => P (a0, a1)) s0) := by
  unfold wp_X5_peek
  exact (dt_x (fun n0 m_n0 => (dl_X5_peek_L0  (fun v0 v1 => (dt_r _)) (fun t0 => (dt_p (dt_r _) (dt_c (dt_r _)))) n0 m_n0 s0)))
set_option maxHeartbeats 4000000 in
theorem dl_X5_isRead_L20 (s0 : Tp) (i1 : Nat) {O : Type} {G_post G2_post : Int32 → (O → Prop) → Prop} {G_e55 G2_e55 : Int32 → (O → Prop) → Prop} (h_post : ∀ v0, dt (G_post v0) (G2_post v0)) (h_e55 : ∀ v0, dt (G_e55 v0) (G2_e55 v0)) : ∀ (n m : Nat) (z2 : Int32), dt (fun P : O → Prop => wp_X5_isRead_L20 s0 i1 (fun v0 => G_post v0 P) (fun v0 => G_e55 v0 P) n z2) (fun P : O → Prop => wp_X5_isRead_L20 s0 i1 (fun v0 => G2_post v0 P) (fun v0 => G2_e55 v0 P) m z2) := by
  intro n
  induction n with
  | zero => exact fun _ _ => dt_F
  | succ n20 ih =>
    intro m z2
    have key : ∀ m9 : Nat, dt (fun P : O → Prop => wp_X5_isRead_L20 s0 i1 (fun v0 => G_post v0 P) (fun v0 => G_e55 v0 P) (n20 + 1) z2) (fun P : O → Prop => wp_X5_isRead_L20 s0 i1 (fun v0 => G2_post v0 P) (fun v0 => G2_e55 v0 P) (m9 + 1) z2) := by
      intro m9
      unfold wp_X5_isRead_L20
      exact (dt_b1 (F := fun k => wp_J0_length_8abf5 k i1) (dt_J0_length_8abf5 i1) (fun r_4 => (dt_p (h_e55 z2) (dt_b1 (F := fun k => wp_J0_charAt_5068e k i1 z2) (dt_J0_charAt_5068e i1 z2) (fun r_7 => (dt_c (dt_p (ih m9 (z2 + 1)) (h_post 0))))))))
    cases m with
    | zero => exact dt_0 (key 0)
    | succ m9 => exact key m9
set_option maxHeartbeats 4000000 in
theorem dt_X5_isRead (s0 : Tp) (i1 : Nat) : dt (fun P : Int32 → Prop => wp_X5_isRead (fun a0 => P a0) s0 i1) (fun P : Int32 → Prop => wp_X5_isRead (fun a0 => P a0) s0 i1) := by
  unfold wp_X5_isRead
  exact (dt_b1 (F := fun k => wp_J0_length_8abf5 k i1) (dt_J0_length_8abf5 i1) (fun r_1 => (dt_p (dt_x (fun n20 m_n20 => (dl_X5_isRead_L20 s0 i1 (fun v0 => (dt_r _)) (fun z2 => (dt_r _)) n20 m_n20 0))) (dt_r _))))
set_option maxHeartbeats 4000000 in
theorem dt_X5_wordRead (s0 : Tp) : dt (fun P : Int32 → Prop => wp_X5_wordRead (fun a0 => P a0) s0) (fun P : Int32 → Prop => wp_X5_wordRead (fun a0 => P a0) s0) := by
  unfold wp_X5_wordRead
  exact (dt_b1 (F := fun k => wp_X5_isRead k s0 0) (dt_X5_isRead s0 0) (fun r_1 => (dt_p (dt_b1 (F := fun k => wp_X5_isRead k s0 1) (dt_X5_isRead s0 1) (fun r_4 => (dt_p (dt_b1 (F := fun k => wp_X5_isRead k s0 2) (dt_X5_isRead s0 2) (fun r_7 => (dt_p (dt_b1 (F := fun k => wp_X5_isRead k s0 3) (dt_X5_isRead s0 3) (fun r_10 => (dt_p (dt_b1 (F := fun k => wp_X5_isRead k s0 4) (dt_X5_isRead s0 4) (fun r_13 => (dt_p (dt_b1 (F := fun k => wp_X5_isRead k s0 5) (dt_X5_isRead s0 5) (fun r_16 => (dt_p (dt_b1 (F := fun k => wp_X5_isRead k s0 6) (dt_X5_isRead s0 6) (fun r_19 => (dt_p (dt_b1 (F := fun k => wp_X5_isRead k s0 7) (dt_X5_isRead s0 7) (fun r_22 => (dt_p (dt_b1 (F := fun k => wp_X5_isRead k s0 8) (dt_X5_isRead s0 8) (fun r_25 => (dt_p (dt_b1 (F := fun k => wp_X5_isRead k s0 9) (dt_X5_isRead s0 9) (fun r_28 => (dt_p (dt_b1 (F := fun k => wp_X5_isRead k s0 10) (dt_X5_isRead s0 10) (fun r_31 => (dt_p (dt_b1 (F := fun k => wp_X5_isRead k s0 11) (dt_X5_isRead s0 11) (fun r_34 => (dt_p (dt_r _) (dt_r _)))) (dt_r _)))) (dt_r _)))) (dt_r _)))) (dt_r _)))) (dt_r _)))) (dt_r _)))) (dt_r _)))) (dt_r _)))) (dt_r _)))) (dt_r _)))) (dt_r _))))
set_option maxHeartbeats 4000000 in
theorem dl_X5_takeWord_L13  {O : Type} {G_post G2_post : Int32 → Tp → (O → Prop) → Prop} {G_e63 G2_e63 : Tp → (O → Prop) → Prop} (h_post : ∀ v0 v1, dt (G_post v0 v1) (G2_post v0 v1)) (h_e63 : ∀ v0, dt (G_e63 v0) (G2_e63 v0)) : ∀ (n m : Nat) (t0 : Tp), dt (fun P : O → Prop => wp_X5_takeWord_L13 (fun v0 v1 => G_post v0 v1 P) (fun v0 => G_e63 v0 P) n t0) (fun P : O → Prop => wp_X5_takeWord_L13 (fun v0 v1 => G2_post v0 v1 P) (fun v0 => G2_e63 v0 P) m t0) := by
  intro n
  induction n with
  | zero => exact fun _ _ => dt_F
  | succ n13 ih =>
    intro m t0
    have key : ∀ m9 : Nat, dt (fun P : O → Prop => wp_X5_takeWord_L13 (fun v0 v1 => G_post v0 v1 P) (fun v0 => G_e63 v0 P) (n13 + 1) t0) (fun P : O → Prop => wp_X5_takeWord_L13 (fun v0 v1 => G2_post v0 v1 P) (fun v0 => G2_e63 v0 P) (m9 + 1) t0) := by
      intro m9
      unfold wp_X5_takeWord_L13
      exact (dt_p (h_e63 t0) (dt_b1 (F := fun k => wp_X5_byteAt k t0 (t0.1 1)) (dt_X5_byteAt t0 (t0.1 1)) (fun r_4 => (dt_p (h_e63 t0) (dt_b1 (F := fun k => wp_X5_byteAt k t0 (t0.1 1)) (dt_X5_byteAt t0 (t0.1 1)) (fun r_7 => (dt_p (h_e63 t0) (ih m9 ((va_up t0.1 1 ((t0.1 1) + 1)), t0.2)))))))))
    cases m with
    | zero => exact dt_0 (key 0)
    | succ m9 => exact key m9
set_option maxHeartbeats 4000000 in
theorem dt_X5_takeWord (s0 : Tp) : dt (fun P : (Int32 × Tp) → Prop => wp_X5_takeWord (fun a0 a1 => P (a0, a1)) s0) (fun P : (Int32 × Tp) → Prop => wp_X5_takeWord (fun a0 a1 => P (a0, a1)) s0) := by
  unfold wp_X5_takeWord
  exact (dt_b2 (F := fun k => wp_X5_peek k s0) (dt_X5_peek s0) (fun r_1 u_2 => (dt_x (fun n13 m_n13 => (dl_X5_takeWord_L13  (fun v0 v1 => (dt_r _)) (fun t0 => (dt_b1 (F := fun k => wp_X5_wordRead k t0) (dt_X5_wordRead t0) (fun r_10 => (dt_r _)))) n13 m_n13 ((va_up u_2.1 2 (u_2.1 1)), u_2.2))))))
set_option maxHeartbeats 4000000 in
theorem dt_X5_blame (s0 : Tp) (x1 : Int32) (x2 : Int32) : dt (fun P : Tp → Prop => wp_X5_blame (fun a0 => P a0) s0 x1 x2) (fun P : Tp → Prop => wp_X5_blame (fun a0 => P a0) s0 x1 x2) := by
  unfold wp_X5_blame
  exact (dt_n (dt_r _) (dt_r _))
set_option maxHeartbeats 4000000 in
theorem dt_X5_takeThisWord (s0 : Tp) (x1 : Int32) : dt (fun P : Tp → Prop => wp_X5_takeThisWord (fun a0 => P a0) s0 x1) (fun P : Tp → Prop => wp_X5_takeThisWord (fun a0 => P a0) s0 x1) := by
  unfold wp_X5_takeThisWord
  exact (dt_b2 (F := fun k => wp_X5_takeWord k s0) (dt_X5_takeWord s0) (fun r_1 u_2 => (dt_p (dt_r _) (dt_b1 (F := fun k => wp_X5_blame k u_2 (u_2.1 2) (1 : Int32)) (dt_X5_blame u_2 (u_2.1 2) (1 : Int32)) (fun u_5 => (dt_r _))))))
set_option maxHeartbeats 4000000 in
theorem dl_X5_takeNumber_L15  {O : Type} {G_post G2_post : Int32 → Tp → (O → Prop) → Prop} {G_e88 G2_e88 : Tp → Int32 → Int32 → Int32 → (O → Prop) → Prop} (h_post : ∀ v0 v1, dt (G_post v0 v1) (G2_post v0 v1)) (h_e88 : ∀ v0 v1 v2 v3, dt (G_e88 v0 v1 v2 v3) (G2_e88 v0 v1 v2 v3)) : ∀ (n m : Nat) (t0 : Tp) (z1 : Int32) (z2 : Int32) (z3 : Int32), dt (fun P : O → Prop => wp_X5_takeNumber_L15 (fun v0 v1 => G_post v0 v1 P) (fun v0 v1 v2 v3 => G_e88 v0 v1 v2 v3 P) n t0 z1 z2 z3) (fun P : O → Prop => wp_X5_takeNumber_L15 (fun v0 v1 => G2_post v0 v1 P) (fun v0 v1 v2 v3 => G2_e88 v0 v1 v2 v3 P) m t0 z1 z2 z3) := by
  intro n
  induction n with
  | zero => exact fun _ _ _ _ _ => dt_F
  | succ n15 ih =>
    intro m t0 z1 z2 z3
    have key : ∀ m9 : Nat, dt (fun P : O → Prop => wp_X5_takeNumber_L15 (fun v0 v1 => G_post v0 v1 P) (fun v0 v1 v2 v3 => G_e88 v0 v1 v2 v3 P) (n15 + 1) t0 z1 z2 z3) (fun P : O → Prop => wp_X5_takeNumber_L15 (fun v0 v1 => G2_post v0 v1 P) (fun v0 v1 v2 v3 => G2_e88 v0 v1 v2 v3 P) (m9 + 1) t0 z1 z2 z3) := by
      intro m9
      unfold wp_X5_takeNumber_L15
      exact (dt_p (h_e88 t0 z1 z2 z3) (dt_b1 (F := fun k => wp_X5_byteAt k t0 (t0.1 1)) (dt_X5_byteAt t0 (t0.1 1)) (fun r_4 => (dt_p (h_e88 t0 z1 z2 z3) (dt_b1 (F := fun k => wp_X5_byteAt k t0 (t0.1 1)) (dt_X5_byteAt t0 (t0.1 1)) (fun r_7 => (dt_p (h_e88 t0 z1 z2 z3) (dt_b1 (F := fun k => wp_X5_byteAt k t0 (t0.1 1)) (dt_X5_byteAt t0 (t0.1 1)) (fun r_10 => (ih m9 ((va_up t0.1 1 ((t0.1 1) + 1)), t0.2) z1 z2 (if ((((z3 * 10) + r_10) - 48) < (1000 : Int32)) then (((z3 * 10) + r_10) - 48) else (1000 : Int32))))))))))))
    cases m with
    | zero => exact dt_0 (key 0)
    | succ m9 => exact key m9
set_option maxHeartbeats 4000000 in
theorem dt_X5_takeNumber (s0 : Tp) (x1 : Int32) (x2 : Int32) : dt (fun P : (Int32 × Tp) → Prop => wp_X5_takeNumber (fun a0 a1 => P (a0, a1)) s0 x1 x2) (fun P : (Int32 × Tp) → Prop => wp_X5_takeNumber (fun a0 a1 => P (a0, a1)) s0 x1 x2) := by
  unfold wp_X5_takeNumber
  exact (dt_b2 (F := fun k => wp_X5_peek k s0) (dt_X5_peek s0) (fun r_1 u_2 => (dt_x (fun n15 m_n15 => (dl_X5_takeNumber_L15  (fun v0 v1 => (dt_r _)) (fun t0 z1 z2 z3 => (dt_n (dt_p (dt_b1 (F := fun k => wp_X5_blame k t0 (t0.1 2) (2 : Int32)) (dt_X5_blame t0 (t0.1 2) (2 : Int32)) (fun u_15 => (dt_r _))) (dt_p (dt_r _) (dt_b1 (F := fun k => wp_X5_blame k t0 (t0.1 2) (2 : Int32)) (dt_X5_blame t0 (t0.1 2) (2 : Int32)) (fun u_18 => (dt_r _))))) (dt_b1 (F := fun k => wp_X5_blame k t0 (t0.1 1) (1 : Int32)) (dt_X5_blame t0 (t0.1 1) (1 : Int32)) (fun u_20 => (dt_r _))))) n15 m_n15 ((va_up u_2.1 2 (u_2.1 1)), u_2.2) x1 x2 0)))))
set_option maxHeartbeats 4000000 in
theorem dt_X5_isSound (s0 : Tp) : dt (fun P : Int32 → Prop => wp_X5_isSound (fun a0 => P a0) s0) (fun P : Int32 → Prop => wp_X5_isSound (fun a0 => P a0) s0) := by
  unfold wp_X5_isSound
  exact (dt_n (dt_r _) (dt_r _))
set_option maxHeartbeats 4000000 in
theorem dt_X1_readHead (s0 : Bd) (s1 : Tp) : dt (fun P : (Bd × Tp) → Prop => wp_X1_readHead (fun a0 a1 => P (a0, a1)) s0 s1) (fun P : (Bd × Tp) → Prop => wp_X1_readHead (fun a0 a1 => P (a0, a1)) s0 s1) := by
  unfold wp_X1_readHead
  exact (dt_b1 (F := fun k => wp_X5_takeThisWord k s1 (1 : Int32)) (dt_X5_takeThisWord s1 (1 : Int32)) (fun u_2 => (dt_b2 (F := fun k => wp_X5_takeNumber k u_2 (1 : Int32) (6 : Int32)) (dt_X5_takeNumber u_2 (1 : Int32) (6 : Int32)) (fun r_3 u_4 => (dt_p (dt_b2 (F := fun k => wp_X5_takeNumber k u_4 (1 : Int32) (0 : Int32)) (dt_X5_takeNumber u_4 (1 : Int32) (0 : Int32)) (fun r_6 u_7 => (dt_b1 (F := fun k => wp_X5_takeThisWord k u_7 (2 : Int32)) (dt_X5_takeThisWord u_7 (2 : Int32)) (fun u_9 => (dt_b2 (F := fun k => wp_X5_takeNumber k u_9 (1 : Int32) (99 : Int32)) (dt_X5_takeNumber u_9 (1 : Int32) (99 : Int32)) (fun r_10 u_11 => (dt_b1 (F := fun k => wp_X5_isSound k u_11) (dt_X5_isSound u_11) (fun r_12 => (dt_p (dt_r _) (dt_r _)))))))))) (dt_c (dt_b2 (F := fun k => wp_X5_takeNumber k u_4 (1 : Int32) (if ((40 / r_3) < (10 : Int32)) then (40 / r_3) else (10 : Int32))) (dt_X5_takeNumber u_4 (1 : Int32) (if ((40 / r_3) < (10 : Int32)) then (40 / r_3) else (10 : Int32))) (fun r_16 u_17 => (dt_b1 (F := fun k => wp_X5_takeThisWord k u_17 (2 : Int32)) (dt_X5_takeThisWord u_17 (2 : Int32)) (fun u_19 => (dt_b2 (F := fun k => wp_X5_takeNumber k u_19 (1 : Int32) (99 : Int32)) (dt_X5_takeNumber u_19 (1 : Int32) (99 : Int32)) (fun r_20 u_21 => (dt_b1 (F := fun k => wp_X5_isSound k u_21) (dt_X5_isSound u_21) (fun r_22 => (dt_p (dt_r _) (dt_r _))))))))))))))))
set_option maxHeartbeats 4000000 in
theorem dt_X5_takeByte (s0 : Tp) (x1 : Int32) : dt (fun P : Tp → Prop => wp_X5_takeByte (fun a0 => P a0) s0 x1) (fun P : Tp → Prop => wp_X5_takeByte (fun a0 => P a0) s0 x1) := by
  unfold wp_X5_takeByte
  exact (dt_b2 (F := fun k => wp_X5_peek k s0) (dt_X5_peek s0) (fun r_1 u_2 => (dt_n (dt_b1 (F := fun k => wp_X5_blame k u_2 (u_2.1 1) (1 : Int32)) (dt_X5_blame u_2 (u_2.1 1) (1 : Int32)) (fun u_5 => (dt_r _))) (dt_r _))))
set_option maxHeartbeats 4000000 in
theorem dt_X6_isSign (x0 : Int32) : dt (fun P : Int32 → Prop => wp_X6_isSign (fun a0 => P a0) x0) (fun P : Int32 → Prop => wp_X6_isSign (fun a0 => P a0) x0) := by
  unfold wp_X6_isSign
  exact (dt_p (dt_r _) (dt_p (dt_r _) (dt_p (dt_r _) (dt_r _))))
set_option maxHeartbeats 4000000 in
theorem dl_X5_takeQuoted_L14  {O : Type} {G_post G2_post : Tp → (O → Prop) → Prop} {G_e106 G2_e106 : Tp → Int32 → Int32 → (O → Prop) → Prop} (h_post : ∀ v0, dt (G_post v0) (G2_post v0)) (h_e106 : ∀ v0 v1 v2, dt (G_e106 v0 v1 v2) (G2_e106 v0 v1 v2)) : ∀ (n m : Nat) (t0 : Tp) (z1 : Int32) (z2 : Int32), dt (fun P : O → Prop => wp_X5_takeQuoted_L14 (fun v0 => G_post v0 P) (fun v0 v1 v2 => G_e106 v0 v1 v2 P) n t0 z1 z2) (fun P : O → Prop => wp_X5_takeQuoted_L14 (fun v0 => G2_post v0 P) (fun v0 v1 v2 => G2_e106 v0 v1 v2 P) m t0 z1 z2) := by
  intro n
  induction n with
  | zero => exact fun _ _ _ _ => dt_F
  | succ n14 ih =>
    intro m t0 z1 z2
    have key : ∀ m9 : Nat, dt (fun P : O → Prop => wp_X5_takeQuoted_L14 (fun v0 => G_post v0 P) (fun v0 v1 v2 => G_e106 v0 v1 v2 P) (n14 + 1) t0 z1 z2) (fun P : O → Prop => wp_X5_takeQuoted_L14 (fun v0 => G2_post v0 P) (fun v0 v1 v2 => G2_e106 v0 v1 v2 P) (m9 + 1) t0 z1 z2) := by
      intro m9
      unfold wp_X5_takeQuoted_L14
      exact (dt_p (h_e106 t0 z1 z2) (dt_b1 (F := fun k => wp_X5_isSound k t0) (dt_X5_isSound t0) (fun r_4 => (dt_p (h_e106 t0 z1 z2) (dt_b1 (F := fun k => wp_X5_byteAt k t0 (t0.1 1)) (dt_X5_byteAt t0 (t0.1 1)) (fun r_7 => (dt_p (h_e106 t0 z1 z2) (dt_b1 (F := fun k => wp_X5_byteAt k t0 (t0.1 1)) (dt_X5_byteAt t0 (t0.1 1)) (fun r_10 => (dt_b1 (F := fun k => wp_X6_isSign k r_10) (dt_X6_isSign r_10) (fun r_12 => (dt_n (dt_p (ih m9 ((va_up t0.1 1 ((t0.1 1) + 1)), t0.2) z1 z2) (dt_b1 (F := fun k => wp_X5_blame k t0 (t0.1 1) (2 : Int32)) (dt_X5_blame t0 (t0.1 1) (2 : Int32)) (fun u_17 => (ih m9 ((va_up u_17.1 1 ((u_17.1 1) + 1)), u_17.2) z1 z2)))) (dt_b1 (F := fun k => wp_X5_blame k t0 (t0.1 1) (1 : Int32)) (dt_X5_blame t0 (t0.1 1) (1 : Int32)) (fun u_19 => (ih m9 ((va_up u_19.1 1 ((u_19.1 1) + 1)), u_19.2) z1 z2)))))))))))))))
    cases m with
    | zero => exact dt_0 (key 0)
    | succ m9 => exact key m9
set_option maxHeartbeats 4000000 in
theorem dt_X5_takeQuoted (s0 : Tp) (x1 : Int32) (x2 : Int32) : dt (fun P : Tp → Prop => wp_X5_takeQuoted (fun a0 => P a0) s0 x1 x2) (fun P : Tp → Prop => wp_X5_takeQuoted (fun a0 => P a0) s0 x1 x2) := by
  unfold wp_X5_takeQuoted
  exact (dt_b1 (F := fun k => wp_X5_takeByte k s0 (39 : Int32)) (dt_X5_takeByte s0 (39 : Int32)) (fun u_2 => (dt_x (fun n14 m_n14 => (dl_X5_takeQuoted_L14  (fun v0 => (dt_r _)) (fun t0 z1 z2 => (dt_p (dt_p (dt_r _) (dt_b1 (F := fun k => wp_X5_blame k ((va_up t0.1 4 ((t0.1 1) - (t0.1 3))), t0.2) (t0.1 1) (2 : Int32)) (dt_X5_blame ((va_up t0.1 4 ((t0.1 1) - (t0.1 3))), t0.2) (t0.1 1) (2 : Int32)) (fun u_23 => (dt_r _)))) (dt_b1 (F := fun k => wp_X5_blame k ((va_up t0.1 4 ((t0.1 1) - (t0.1 3))), t0.2) (t0.1 0) (1 : Int32)) (dt_X5_blame ((va_up t0.1 4 ((t0.1 1) - (t0.1 3))), t0.2) (t0.1 0) (1 : Int32)) (fun u_25 => (dt_r _))))) n14 m_n14 ((va_up u_2.1 3 (u_2.1 1)), u_2.2) x1 x2)))))
set_option maxHeartbeats 4000000 in
theorem dt_X1_readDrum (s0 : Bd) (s1 : Tp) : dt (fun P : (Bd × Tp) → Prop => wp_X1_readDrum (fun a0 a1 => P (a0, a1)) s0 s1) (fun P : (Bd × Tp) → Prop => wp_X1_readDrum (fun a0 a1 => P (a0, a1)) s0 s1) := by
  unfold wp_X1_readDrum
  exact (dt_b2 (F := fun k => wp_X5_takeNumber k s1 (1 : Int32) (9 : Int32)) (dt_X5_takeNumber s1 (1 : Int32) (9 : Int32)) (fun r_1 u_2 => (dt_b1 (F := fun k => wp_X5_takeQuoted k u_2 (2 : Int32) (40 : Int32)) (dt_X5_takeQuoted u_2 (2 : Int32) (40 : Int32)) (fun u_4 => (dt_b1 (F := fun k => wp_X5_isSound k u_4) (dt_X5_isSound u_4) (fun r_5 => (dt_p (dt_r _) (dt_b1 (F := fun k => wp_X0_addDrum k s0 u_4 r_1 (u_4.1 3) (u_4.1 4)) (dt_X0_addDrum s0 u_4 r_1 (u_4.1 3) (u_4.1 4)) (fun u_9 => (dt_r _))))))))))
set_option maxHeartbeats 4000000 in
theorem dl_X1_readCells_L38  {O : Type} {G_post G2_post : Bd → Tp → (O → Prop) → Prop} {G_e66 G2_e66 : Bd → Tp → Int32 → Int32 → Int32 → Int32 → Int32 → (O → Prop) → Prop} (h_post : ∀ v0 v1, dt (G_post v0 v1) (G2_post v0 v1)) (h_e66 : ∀ v0 v1 v2 v3 v4 v5 v6, dt (G_e66 v0 v1 v2 v3 v4 v5 v6) (G2_e66 v0 v1 v2 v3 v4 v5 v6)) : ∀ (n m : Nat) (t0 : Bd) (t1 : Tp) (z2 : Int32) (z3 : Int32) (z4 : Int32) (z5 : Int32) (z6 : Int32), dt (fun P : O → Prop => wp_X1_readCells_L38 (fun v0 v1 => G_post v0 v1 P) (fun v0 v1 v2 v3 v4 v5 v6 => G_e66 v0 v1 v2 v3 v4 v5 v6 P) n t0 t1 z2 z3 z4 z5 z6) (fun P : O → Prop => wp_X1_readCells_L38 (fun v0 v1 => G2_post v0 v1 P) (fun v0 v1 v2 v3 v4 v5 v6 => G2_e66 v0 v1 v2 v3 v4 v5 v6 P) m t0 t1 z2 z3 z4 z5 z6) := by
  intro n
  induction n with
  | zero => exact fun _ _ _ _ _ _ _ _ => dt_F
  | succ n38 ih =>
    intro m t0 t1 z2 z3 z4 z5 z6
    have key : ∀ m9 : Nat, dt (fun P : O → Prop => wp_X1_readCells_L38 (fun v0 v1 => G_post v0 v1 P) (fun v0 v1 v2 v3 v4 v5 v6 => G_e66 v0 v1 v2 v3 v4 v5 v6 P) (n38 + 1) t0 t1 z2 z3 z4 z5 z6) (fun P : O → Prop => wp_X1_readCells_L38 (fun v0 v1 => G2_post v0 v1 P) (fun v0 v1 v2 v3 v4 v5 v6 => G2_e66 v0 v1 v2 v3 v4 v5 v6 P) (m9 + 1) t0 t1 z2 z3 z4 z5 z6) := by
      intro m9
      unfold wp_X1_readCells_L38
      exact (dt_p (h_e66 t0 t1 z2 z3 z4 z5 z6) (dt_b1 (F := fun k => wp_X5_isSound k t1) (dt_X5_isSound t1) (fun r_10 => (dt_p (h_e66 t0 t1 z2 z3 z4 z5 z6) (dt_b1 (F := fun k => wp_X0_makeCell k t0 z6 z5) (dt_X0_makeCell t0 z6 z5) (fun u_14 => (ih m9 u_14 t1 z2 z3 z4 z5 (z6 + 1))))))))
    cases m with
    | zero => exact dt_0 (key 0)
    | succ m9 => exact key m9

set_option maxHeartbeats 4000000 in
theorem dt_X1_readCells (s0 : Bd) (s1 : Tp) : dt (fun P : (Bd × Tp) → Prop => wp_X1_readCells (fun a0 a1 => P (a0, a1)) s0 s1) (fun P : (Bd × Tp) → Prop => wp_X1_readCells (fun a0 a1 => P (a0, a1)) s0 s1) := by
  unfold wp_X1_readCells
  exact (dt_b1 (F := fun k => wp_X0_cells k s0) (dt_X0_cells s0) (fun r_1 => (dt_b2 (F := fun k => wp_X5_takeNumber k s1 (0 : Int32) (r_1 - 1)) (dt_X5_takeNumber s1 (0 : Int32) (r_1 - 1)) (fun r_3 u_4 => (dt_b2 (F := fun k => wp_X5_takeNumber k u_4 r_3 (r_1 - 1)) (dt_X5_takeNumber u_4 r_3 (r_1 - 1)) (fun r_5 u_6 => (dt_b2 (F := fun k => wp_X5_takeNumber k u_6 (0 : Int32) ((s0.1 3) - 1)) (dt_X5_takeNumber u_6 (0 : Int32) ((s0.1 3) - 1)) (fun r_7 u_8 => (dt_x (fun n38 m_n38 => (dl_X1_readCells_L38  (fun v0 v1 => (dt_r _)) (fun t0 t1 z2 z3 z4 z5 z6 => (dt_r _)) n38 m_n38 s0 u_8 (r_1 - 1) r_3 r_5 r_7 r_3)))))))))))
set_option maxHeartbeats 4000000 in
theorem dt_X1_readWorn (s0 : Bd) (s1 : Tp) : dt (fun P : (Bd × Tp) → Prop => wp_X1_readWorn (fun a0 a1 => P (a0, a1)) s0 s1) (fun P : (Bd × Tp) → Prop => wp_X1_readWorn (fun a0 a1 => P (a0, a1)) s0 s1) := by
  unfold wp_X1_readWorn
  exact (dt_b1 (F := fun k => wp_X0_cells k s0) (dt_X0_cells s0) (fun r_1 => (dt_b2 (F := fun k => wp_X5_takeNumber k s1 (0 : Int32) (r_1 - 1)) (dt_X5_takeNumber s1 (0 : Int32) (r_1 - 1)) (fun r_3 u_4 => (dt_b1 (F := fun k => wp_X0_flapsOf k s0 r_3) (dt_X0_flapsOf s0 r_3) (fun r_5 => (dt_b2 (F := fun k => wp_X5_takeNumber k u_4 (1 : Int32) (r_5 - 1)) (dt_X5_takeNumber u_4 (1 : Int32) (r_5 - 1)) (fun r_7 u_8 => (dt_b1 (F := fun k => wp_X5_isSound k u_8) (dt_X5_isSound u_8) (fun r_9 => (dt_p (dt_b1 (F := fun k => wp_X5_isSound k u_8) (dt_X5_isSound u_8) (fun r_12 => (dt_p (dt_r _) (dt_b1 (F := fun k => wp_X0_wearFlap k s0 r_3 r_7) (dt_X0_wearFlap s0 r_3 r_7) (fun u_16 => (dt_r _)))))) (dt_b1 (F := fun k => wp_X0_isWorn k s0 r_3 r_7) (dt_X0_isWorn s0 r_3 r_7) (fun r_17 => (dt_p (dt_b1 (F := fun k => wp_X5_isSound k u_8) (dt_X5_isSound u_8) (fun r_20 => (dt_p (dt_r _) (dt_b1 (F := fun k => wp_X0_wearFlap k s0 r_3 r_7) (dt_X0_wearFlap s0 r_3 r_7) (fun u_24 => (dt_r _)))))) (dt_b1 (F := fun k => wp_X5_blame k u_8 (u_8.1 2) (2 : Int32)) (dt_X5_blame u_8 (u_8.1 2) (2 : Int32)) (fun u_26 => (dt_b1 (F := fun k => wp_X5_isSound k u_26) (dt_X5_isSound u_26) (fun r_27 => (dt_p (dt_r _) (dt_b1 (F := fun k => wp_X0_wearFlap k s0 r_3 r_7) (dt_X0_wearFlap s0 r_3 r_7) (fun u_31 => (dt_r _))))))))))))))))))))))
set_option maxHeartbeats 4000000 in
theorem dt_X1_readRow (s0 : Bd) (s1 : Tp) : dt (fun P : (Bd × Tp) → Prop => wp_X1_readRow (fun a0 a1 => P (a0, a1)) s0 s1) (fun P : (Bd × Tp) → Prop => wp_X1_readRow (fun a0 a1 => P (a0, a1)) s0 s1) := by
  unfold wp_X1_readRow
  exact (dt_b2 (F := fun k => wp_X5_takeNumber k s1 (0 : Int32) ((s0.1 0) - 1)) (dt_X5_takeNumber s1 (0 : Int32) ((s0.1 0) - 1)) (fun r_1 u_2 => (dt_b1 (F := fun k => wp_X5_takeQuoted k u_2 (0 : Int32) (s0.1 1)) (dt_X5_takeQuoted u_2 (0 : Int32) (s0.1 1)) (fun u_4 => (dt_b1 (F := fun k => wp_X5_isSound k u_4) (dt_X5_isSound u_4) (fun r_5 => (dt_p (dt_r _) (dt_b1 (F := fun k => wp_X0_showSigns k s0 u_4 r_1 (u_4.1 3) (u_4.1 4)) (dt_X0_showSigns s0 u_4 r_1 (u_4.1 3) (u_4.1 4)) (fun u_9 => (dt_r _))))))))))
set_option maxHeartbeats 4000000 in
theorem dt_X1_readLose (s0 : Bd) (s1 : Tp) : dt (fun P : (Bd × Tp) → Prop => wp_X1_readLose (fun a0 a1 => P (a0, a1)) s0 s1) (fun P : (Bd × Tp) → Prop => wp_X1_readLose (fun a0 a1 => P (a0, a1)) s0 s1) := by
  unfold wp_X1_readLose
  exact (dt_b1 (F := fun k => wp_X0_cells k s0) (dt_X0_cells s0) (fun r_1 => (dt_b2 (F := fun k => wp_X5_takeNumber k s1 (0 : Int32) (r_1 - 1)) (dt_X5_takeNumber s1 (0 : Int32) (r_1 - 1)) (fun r_3 u_4 => (dt_b2 (F := fun k => wp_X5_takeNumber k u_4 (0 : Int32) (9 : Int32)) (dt_X5_takeNumber u_4 (0 : Int32) (9 : Int32)) (fun r_5 u_6 => (dt_b1 (F := fun k => wp_X5_isSound k u_6) (dt_X5_isSound u_6) (fun r_7 => (dt_p (dt_r _) (dt_b1 (F := fun k => wp_X0_setLost k s0 r_3 r_5) (dt_X0_setLost s0 r_3 r_5) (fun u_11 => (dt_r _))))))))))))
set_option maxHeartbeats 4000000 in
theorem dt_X1_readPart (s0 : Bd) (s1 : Tp) : dt (fun P : (Bd × Tp) → Prop => wp_X1_readPart (fun a0 a1 => P (a0, a1)) s0 s1) (fun P : (Bd × Tp) → Prop => wp_X1_readPart (fun a0 a1 => P (a0, a1)) s0 s1) := by
  unfold wp_X1_readPart
  exact (dt_b2 (F := fun k => wp_X5_takeWord k s1) (dt_X5_takeWord s1) (fun r_1 u_2 => (dt_p (dt_b1 (F := fun k => wp_X5_blame k u_2 (u_2.1 2) (1 : Int32)) (dt_X5_blame u_2 (u_2.1 2) (1 : Int32)) (fun u_5 => (dt_b1 (F := fun k => wp_X5_isSound k u_5) (dt_X5_isSound u_5) (fun r_6 => (dt_n (dt_p (dt_b2 (F := fun k => wp_X1_readDrum k s0 u_5) (dt_X1_readDrum s0 u_5) (fun u_11a u_11b => (dt_r _))) (dt_p (dt_b2 (F := fun k => wp_X1_readCells k s0 u_5) (dt_X1_readCells s0 u_5) (fun u_14a u_14b => (dt_r _))) (dt_p (dt_b2 (F := fun k => wp_X1_readWorn k s0 u_5) (dt_X1_readWorn s0 u_5) (fun u_17a u_17b => (dt_r _))) (dt_p (dt_b2 (F := fun k => wp_X1_readRow k s0 u_5) (dt_X1_readRow s0 u_5) (fun u_20a u_20b => (dt_r _))) (dt_b2 (F := fun k => wp_X1_readLose k s0 u_5) (dt_X1_readLose s0 u_5) (fun u_22a u_22b => (dt_r _))))))) (dt_r _)))))) (dt_p (dt_n (dt_n (dt_b1 (F := fun k => wp_X5_isSound k u_2) (dt_X5_isSound u_2) (fun r_26 => (dt_n (dt_p (dt_b2 (F := fun k => wp_X1_readDrum k s0 u_2) (dt_X1_readDrum s0 u_2) (fun u_31a u_31b => (dt_r _))) (dt_p (dt_b2 (F := fun k => wp_X1_readCells k s0 u_2) (dt_X1_readCells s0 u_2) (fun u_34a u_34b => (dt_r _))) (dt_p (dt_b2 (F := fun k => wp_X1_readWorn k s0 u_2) (dt_X1_readWorn s0 u_2) (fun u_37a u_37b => (dt_r _))) (dt_p (dt_b2 (F := fun k => wp_X1_readRow k s0 u_2) (dt_X1_readRow s0 u_2) (fun u_40a u_40b => (dt_r _))) (dt_b2 (F := fun k => wp_X1_readLose k s0 u_2) (dt_X1_readLose s0 u_2) (fun u_42a u_42b => (dt_r _))))))) (dt_r _)))) (dt_b1 (F := fun k => wp_X5_blame k u_2 (u_2.1 2) (3 : Int32)) (dt_X5_blame u_2 (u_2.1 2) (3 : Int32)) (fun u_44 => (dt_b1 (F := fun k => wp_X5_isSound k u_44) (dt_X5_isSound u_44) (fun r_45 => (dt_n (dt_p (dt_b2 (F := fun k => wp_X1_readDrum k s0 u_44) (dt_X1_readDrum s0 u_44) (fun u_50a u_50b => (dt_r _))) (dt_p (dt_b2 (F := fun k => wp_X1_readCells k s0 u_44) (dt_X1_readCells s0 u_44) (fun u_53a u_53b => (dt_r _))) (dt_p (dt_b2 (F := fun k => wp_X1_readWorn k s0 u_44) (dt_X1_readWorn s0 u_44) (fun u_56a u_56b => (dt_r _))) (dt_p (dt_b2 (F := fun k => wp_X1_readRow k s0 u_44) (dt_X1_readRow s0 u_44) (fun u_59a u_59b => (dt_r _))) (dt_b2 (F := fun k => wp_X1_readLose k s0 u_44) (dt_X1_readLose s0 u_44) (fun u_61a u_61b => (dt_r _))))))) (dt_r _))))))) (dt_n (dt_b1 (F := fun k => wp_X5_isSound k u_2) (dt_X5_isSound u_2) (fun r_63 => (dt_n (dt_p (dt_b2 (F := fun k => wp_X1_readDrum k s0 u_2) (dt_X1_readDrum s0 u_2) (fun u_68a u_68b => (dt_r _))) (dt_p (dt_b2 (F := fun k => wp_X1_readCells k s0 u_2) (dt_X1_readCells s0 u_2) (fun u_71a u_71b => (dt_r _))) (dt_p (dt_b2 (F := fun k => wp_X1_readWorn k s0 u_2) (dt_X1_readWorn s0 u_2) (fun u_74a u_74b => (dt_r _))) (dt_p (dt_b2 (F := fun k => wp_X1_readRow k s0 u_2) (dt_X1_readRow s0 u_2) (fun u_77a u_77b => (dt_r _))) (dt_b2 (F := fun k => wp_X1_readLose k s0 u_2) (dt_X1_readLose s0 u_2) (fun u_79a u_79b => (dt_r _))))))) (dt_r _)))) (dt_b1 (F := fun k => wp_X5_blame k u_2 (u_2.1 2) (3 : Int32)) (dt_X5_blame u_2 (u_2.1 2) (3 : Int32)) (fun u_81 => (dt_b1 (F := fun k => wp_X5_isSound k u_81) (dt_X5_isSound u_81) (fun r_82 => (dt_n (dt_p (dt_b2 (F := fun k => wp_X1_readDrum k s0 u_81) (dt_X1_readDrum s0 u_81) (fun u_87a u_87b => (dt_r _))) (dt_p (dt_b2 (F := fun k => wp_X1_readCells k s0 u_81) (dt_X1_readCells s0 u_81) (fun u_90a u_90b => (dt_r _))) (dt_p (dt_b2 (F := fun k => wp_X1_readWorn k s0 u_81) (dt_X1_readWorn s0 u_81) (fun u_93a u_93b => (dt_r _))) (dt_p (dt_b2 (F := fun k => wp_X1_readRow k s0 u_81) (dt_X1_readRow s0 u_81) (fun u_96a u_96b => (dt_r _))) (dt_b2 (F := fun k => wp_X1_readLose k s0 u_81) (dt_X1_readLose s0 u_81) (fun u_98a u_98b => (dt_r _))))))) (dt_r _)))))))) (dt_b1 (F := fun k => wp_X5_blame k u_2 (u_2.1 2) (1 : Int32)) (dt_X5_blame u_2 (u_2.1 2) (1 : Int32)) (fun u_100 => (dt_b1 (F := fun k => wp_X5_isSound k u_100) (dt_X5_isSound u_100) (fun r_101 => (dt_n (dt_p (dt_b2 (F := fun k => wp_X1_readDrum k s0 u_100) (dt_X1_readDrum s0 u_100) (fun u_106a u_106b => (dt_r _))) (dt_p (dt_b2 (F := fun k => wp_X1_readCells k s0 u_100) (dt_X1_readCells s0 u_100) (fun u_109a u_109b => (dt_r _))) (dt_p (dt_b2 (F := fun k => wp_X1_readWorn k s0 u_100) (dt_X1_readWorn s0 u_100) (fun u_112a u_112b => (dt_r _))) (dt_p (dt_b2 (F := fun k => wp_X1_readRow k s0 u_100) (dt_X1_readRow s0 u_100) (fun u_115a u_115b => (dt_r _))) (dt_b2 (F := fun k => wp_X1_readLose k s0 u_100) (dt_X1_readLose s0 u_100) (fun u_117a u_117b => (dt_r _))))))) (dt_r _))))))))))
set_option maxHeartbeats 4000000 in
theorem dl_X1_readInto_L15  {O : Type} {G_post G2_post : Bd → Tp → (O → Prop) → Prop} {G_e54 G2_e54 : Bd → Tp → Int32 → (O → Prop) → Prop} (h_post : ∀ v0 v1, dt (G_post v0 v1) (G2_post v0 v1)) (h_e54 : ∀ v0 v1 v2, dt (G_e54 v0 v1 v2) (G2_e54 v0 v1 v2)) : ∀ (n m : Nat) (t0 : Bd) (t1 : Tp) (z2 : Int32), dt (fun P : O → Prop => wp_X1_readInto_L15 (fun v0 v1 => G_post v0 v1 P) (fun v0 v1 v2 => G_e54 v0 v1 v2 P) n t0 t1 z2) (fun P : O → Prop => wp_X1_readInto_L15 (fun v0 v1 => G2_post v0 v1 P) (fun v0 v1 v2 => G2_e54 v0 v1 v2 P) m t0 t1 z2) := by
  intro n
  induction n with
  | zero => exact fun _ _ _ _ => dt_F
  | succ n15 ih =>
    intro m t0 t1 z2
    have key : ∀ m9 : Nat, dt (fun P : O → Prop => wp_X1_readInto_L15 (fun v0 v1 => G_post v0 v1 P) (fun v0 v1 v2 => G_e54 v0 v1 v2 P) (n15 + 1) t0 t1 z2) (fun P : O → Prop => wp_X1_readInto_L15 (fun v0 v1 => G2_post v0 v1 P) (fun v0 v1 v2 => G2_e54 v0 v1 v2 P) (m9 + 1) t0 t1 z2) := by
      intro m9
      unfold wp_X1_readInto_L15
      exact (dt_p (h_e54 t0 t1 z2) (dt_b1 (F := fun k => wp_X5_isSound k t1) (dt_X5_isSound t1) (fun r_8 => (dt_p (h_e54 t0 t1 z2) (dt_b2 (F := fun k => wp_X5_peek k t1) (dt_X5_peek t1) (fun r_11 u_12 => (dt_p (h_e54 t0 u_12 z2) (dt_b1 (F := fun k => wp_X5_takeByte k u_12 (59 : Int32)) (dt_X5_takeByte u_12 (59 : Int32)) (fun u_15 => (dt_b2 (F := fun k => wp_X1_readPart k t0 u_15) (dt_X1_readPart t0 u_15) (fun u_17a u_17b => (ih m9 u_17a u_17b (z2 + 1)))))))))))))
    cases m with
    | zero => exact dt_0 (key 0)
    | succ m9 => exact key m9
set_option maxHeartbeats 4000000 in
theorem dt_X1_readInto (s0 : Bd) (s1 : Tp) : dt (fun P : (Bd × Tp) → Prop => wp_X1_readInto (fun a0 a1 => P (a0, a1)) s0 s1) (fun P : (Bd × Tp) → Prop => wp_X1_readInto (fun a0 a1 => P (a0, a1)) s0 s1) := by
  unfold wp_X1_readInto
  exact (dt_b1 (F := fun k => wp_X0_clear k s0) (dt_X0_clear s0) (fun u_2 => (dt_b1 (F := fun k => wp_X5_startReading k s1) (dt_X5_startReading s1) (fun u_4 => (dt_b2 (F := fun k => wp_X1_readHead k u_2 u_4) (dt_X1_readHead u_2 u_4) (fun u_6a u_6b => (dt_x (fun n15 m_n15 => (dl_X1_readInto_L15  (fun v0 v1 => (dt_r _)) (fun t0 t1 z2 => (dt_n (dt_r _) (dt_b1 (F := fun k => wp_X5_blame k t1 (t1.1 0) (4 : Int32)) (dt_X5_blame t1 (t1.1 0) (4 : Int32)) (fun u_20 => (dt_r _))))) n15 m_n15 u_6a u_6b 0)))))))))
set_option maxHeartbeats 4000000 in
theorem dt_X2_startCounting (s0 : Mo) : dt (fun P : Mo → Prop => wp_X2_startCounting (fun a0 => P a0) s0) (fun P : Mo → Prop => wp_X2_startCounting (fun a0 => P a0) s0) := by
  unfold wp_X2_startCounting
  exact (dt_r _)
set_option maxHeartbeats 4000000 in
theorem dl_X2_sortByLeft_L17 (s1 : Bd) {O : Type} {G_post G2_post : Int32 → Mo → (O → Prop) → Prop} {G_e74 G2_e74 : Mo → Int32 → Int32 → (O → Prop) → Prop} (h_post : ∀ v0 v1, dt (G_post v0 v1) (G2_post v0 v1)) (h_e74 : ∀ v0 v1 v2, dt (G_e74 v0 v1 v2) (G2_e74 v0 v1 v2)) : ∀ (n m : Nat) (t0 : Mo) (z2 : Int32) (z3 : Int32), dt (fun P : O → Prop => wp_X2_sortByLeft_L17 s1 (fun v0 v1 => G_post v0 v1 P) (fun v0 v1 v2 => G_e74 v0 v1 v2 P) n t0 z2 z3) (fun P : O → Prop => wp_X2_sortByLeft_L17 s1 (fun v0 v1 => G2_post v0 v1 P) (fun v0 v1 v2 => G2_e74 v0 v1 v2 P) m t0 z2 z3) := by
  intro n
  induction n with
  | zero => exact fun _ _ _ _ => dt_F
  | succ n17 ih =>
    intro m t0 z2 z3
    have key : ∀ m9 : Nat, dt (fun P : O → Prop => wp_X2_sortByLeft_L17 s1 (fun v0 v1 => G_post v0 v1 P) (fun v0 v1 v2 => G_e74 v0 v1 v2 P) (n17 + 1) t0 z2 z3) (fun P : O → Prop => wp_X2_sortByLeft_L17 s1 (fun v0 v1 => G2_post v0 v1 P) (fun v0 v1 v2 => G2_e74 v0 v1 v2 P) (m9 + 1) t0 z2 z3) := by
      intro m9
      unfold wp_X2_sortByLeft_L17
      exact (dt_p (h_e74 t0 z2 z3) (dt_b1 (F := fun k => wp_X0_leftOf k s1 z3) (dt_X0_leftOf s1 z3) (fun r_5 => (dt_p (ih m9 t0 z2 (z3 + (-1))) (dt_p (ih m9 t0 z2 (z3 + (-1))) (dt_c (dt_c (dt_c (ih m9 (t0.1, (va_up (va_up t0.2 0 (upd (t0.2 0) (Int32.toNatClampNeg r_5) z3)) 1 (upd (t0.2 1) (Int32.toNatClampNeg z3) ((t0.2 0) (Int32.toNatClampNeg r_5))))) (if (z2 < r_5) then r_5 else z2) (z3 + (-1)))))))))))
    cases m with
    | zero => exact dt_0 (key 0)
    | succ m9 => exact key m9
set_option maxHeartbeats 4000000 in
theorem dt_X2_sortByLeft (s0 : Mo) (s1 : Bd) : dt (fun P : (Int32 × Mo) → Prop => wp_X2_sortByLeft (fun a0 a1 => P (a0, a1)) s0 s1) (fun P : (Int32 × Mo) → Prop => wp_X2_sortByLeft (fun a0 a1 => P (a0, a1)) s0 s1) := by
  unfold wp_X2_sortByLeft
  exact (dt_b1 (F := fun k => wp_X0_cells k s1) (dt_X0_cells s1) (fun r_2 => (dt_x (fun n17 m_n17 => (dl_X2_sortByLeft_L17 s1 (fun v0 v1 => (dt_r _)) (fun t0 z2 z3 => (dt_r _)) n17 m_n17 (s0.1, (va_up s0.2 0 (fl_f 40 (-1) (s0.2 0)))) 0 (r_2 - 1))))))
set_option maxHeartbeats 4000000 in
theorem dl_X2_choose_L44 (s1 : Bd) {O : Type} {G_post G2_post : Mo → (O → Prop) → Prop} {G_e130 G2_e130 : Mo → Int32 → Int32 → Int32 → Int32 → (O → Prop) → Prop} (h_post : ∀ v0, dt (G_post v0) (G2_post v0)) (h_e130 : ∀ v0 v1 v2 v3 v4, dt (G_e130 v0 v1 v2 v3 v4) (G2_e130 v0 v1 v2 v3 v4)) : ∀ (n m : Nat) (t0 : Mo) (z2 : Int32) (z3 : Int32) (z4 : Int32) (z5 : Int32), dt (fun P : O → Prop => wp_X2_choose_L44 s1 (fun v0 => G_post v0 P) (fun v0 v1 v2 v3 v4 => G_e130 v0 v1 v2 v3 v4 P) n t0 z2 z3 z4 z5) (fun P : O → Prop => wp_X2_choose_L44 s1 (fun v0 => G2_post v0 P) (fun v0 v1 v2 v3 v4 => G2_e130 v0 v1 v2 v3 v4 P) m t0 z2 z3 z4 z5) := by
  intro n
  induction n with
  | zero => exact fun _ _ _ _ _ _ => dt_F
  | succ n44 ih =>
    intro m t0 z2 z3 z4 z5
    have key : ∀ m9 : Nat, dt (fun P : O → Prop => wp_X2_choose_L44 s1 (fun v0 => G_post v0 P) (fun v0 v1 v2 v3 v4 => G_e130 v0 v1 v2 v3 v4 P) (n44 + 1) t0 z2 z3 z4 z5) (fun P : O → Prop => wp_X2_choose_L44 s1 (fun v0 => G2_post v0 P) (fun v0 v1 v2 v3 v4 => G2_e130 v0 v1 v2 v3 v4 P) (m9 + 1) t0 z2 z3 z4 z5) := by
      intro m9
      unfold wp_X2_choose_L44
      exact (dt_p (h_e130 t0 z2 z3 z4 z5) (dt_p (h_e130 t0 z2 z3 z4 z5) (dt_b1 (F := fun k => wp_X0_currentOf k s1 z4) (dt_X0_currentOf s1 z4) (fun r_8 => (dt_p (dt_c (ih m9 t0 z2 z3 ((t0.2 1) (Int32.toNatClampNeg z4)) (z5 + 1))) (dt_p (dt_c (ih m9 t0 z2 z3 ((t0.2 1) (Int32.toNatClampNeg z4)) (z5 + 1))) (dt_c (dt_c (ih m9 ((va_up (va_up t0.1 0 ((t0.1 0) + 1)) 1 ((t0.1 1) + r_8)), (va_up t0.2 2 (upd (t0.2 2) (Int32.toNatClampNeg (t0.1 0)) z4))) z2 z3 ((t0.2 1) (Int32.toNatClampNeg z4)) (z5 + 1))))))))))
    cases m with
    | zero => exact dt_0 (key 0)
    | succ m9 => exact key m9
set_option maxHeartbeats 4000000 in
theorem dl_X2_choose_L18 (s1 : Bd) {O : Type} {G_post G2_post : Mo → (O → Prop) → Prop} {G_e136 G2_e136 : Mo → Int32 → Int32 → (O → Prop) → Prop} (h_post : ∀ v0, dt (G_post v0) (G2_post v0)) (h_e136 : ∀ v0 v1 v2, dt (G_e136 v0 v1 v2) (G2_e136 v0 v1 v2)) : ∀ (n m : Nat) (t0 : Mo) (z2 : Int32) (z3 : Int32), dt (fun P : O → Prop => wp_X2_choose_L18 s1 (fun v0 => G_post v0 P) (fun v0 v1 v2 => G_e136 v0 v1 v2 P) n t0 z2 z3) (fun P : O → Prop => wp_X2_choose_L18 s1 (fun v0 => G2_post v0 P) (fun v0 v1 v2 => G2_e136 v0 v1 v2 P) m t0 z2 z3) := by
  intro n
  induction n with
  | zero => exact fun _ _ _ _ => dt_F
  | succ n18 ih =>
    intro m t0 z2 z3
    have key : ∀ m9 : Nat, dt (fun P : O → Prop => wp_X2_choose_L18 s1 (fun v0 => G_post v0 P) (fun v0 v1 v2 => G_e136 v0 v1 v2 P) (n18 + 1) t0 z2 z3) (fun P : O → Prop => wp_X2_choose_L18 s1 (fun v0 => G2_post v0 P) (fun v0 v1 v2 => G2_e136 v0 v1 v2 P) (m9 + 1) t0 z2 z3) := by
      intro m9
      unfold wp_X2_choose_L18
      exact (dt_p (h_e136 t0 z2 z3) (dt_p (h_e136 t0 z2 z3) (dt_c (dt_x (fun n44 m_n44 => (dl_X2_choose_L44 s1 (fun v0 => (h_post v0)) (fun t0 z2 z3 z4 z5 => (ih m9 t0 z2 (z3 + (-1)))) n44 m_n44 t0 z2 z3 ((t0.2 0) (Int32.toNatClampNeg z3)) 0))))))
    cases m with
    | zero => exact dt_0 (key 0)
    | succ m9 => exact key m9
set_option maxHeartbeats 4000000 in
theorem dt_X2_choose (s0 : Mo) (s1 : Bd) : dt (fun P : Mo → Prop => wp_X2_choose (fun a0 => P a0) s0 s1) (fun P : Mo → Prop => wp_X2_choose (fun a0 => P a0) s0 s1) := by
  unfold wp_X2_choose
  exact (dt_b2 (F := fun k => wp_X2_sortByLeft k ((va_up (va_up s0.1 0 0) 1 0), s0.2) s1) (dt_X2_sortByLeft ((va_up (va_up s0.1 0 0) 1 0), s0.2) s1) (fun r_1 u_2 => (dt_x (fun n18 m_n18 => (dl_X2_choose_L18 s1 (fun v0 => (dt_r _)) (fun t0 z2 z3 => (dt_r _)) n18 m_n18 u_2 r_1 r_1)))))
set_option maxHeartbeats 4000000 in
theorem dt_X2_countTick (s0 : Mo) (x1 : Int32) : dt (fun P : Mo → Prop => wp_X2_countTick (fun a0 => P a0) s0 x1) (fun P : Mo → Prop => wp_X2_countTick (fun a0 => P a0) s0 x1) := by
  unfold wp_X2_countTick
  exact (dt_p (dt_r _) (dt_r _))
set_option maxHeartbeats 4000000 in
theorem dl_X2_turn_L27  {O : Type} {G_post G2_post : Mo → Bd → (O → Prop) → Prop} {G_e62 G2_e62 : Mo → Bd → Int32 → Int32 → Int32 → (O → Prop) → Prop} (h_post : ∀ v0 v1, dt (G_post v0 v1) (G2_post v0 v1)) (h_e62 : ∀ v0 v1 v2 v3 v4, dt (G_e62 v0 v1 v2 v3 v4) (G2_e62 v0 v1 v2 v3 v4)) : ∀ (n m : Nat) (t0 : Mo) (t1 : Bd) (z2 : Int32) (z3 : Int32) (z4 : Int32), dt (fun P : O → Prop => wp_X2_turn_L27 (fun v0 v1 => G_post v0 v1 P) (fun v0 v1 v2 v3 v4 => G_e62 v0 v1 v2 v3 v4 P) n t0 t1 z2 z3 z4) (fun P : O → Prop => wp_X2_turn_L27 (fun v0 v1 => G2_post v0 v1 P) (fun v0 v1 v2 v3 v4 => G2_e62 v0 v1 v2 v3 v4 P) m t0 t1 z2 z3 z4) := by
  intro n
  induction n with
  | zero => exact fun _ _ _ _ _ _ => dt_F
  | succ n27 ih =>
    intro m t0 t1 z2 z3 z4
    have key : ∀ m9 : Nat, dt (fun P : O → Prop => wp_X2_turn_L27 (fun v0 v1 => G_post v0 v1 P) (fun v0 v1 v2 v3 v4 => G_e62 v0 v1 v2 v3 v4 P) (n27 + 1) t0 t1 z2 z3 z4) (fun P : O → Prop => wp_X2_turn_L27 (fun v0 v1 => G2_post v0 v1 P) (fun v0 v1 v2 v3 v4 => G2_e62 v0 v1 v2 v3 v4 P) (m9 + 1) t0 t1 z2 z3 z4) := by
      intro m9
      unfold wp_X2_turn_L27
      exact (dt_p (h_e62 t0 t1 z2 z3 z4) (dt_c (dt_b2 (F := fun k => wp_X0_stepOn k t1 ((t0.2 2) (Int32.toNatClampNeg z4))) (dt_X0_stepOn t1 ((t0.2 2) (Int32.toNatClampNeg z4))) (fun r_9 u_10 => (ih m9 ((va_up t0.1 8 ((t0.1 8) + r_9)), t0.2) u_10 z2 z3 (z4 + 1))))))
    cases m with
    | zero => exact dt_0 (key 0)
    | succ m9 => exact key m9
set_option maxHeartbeats 4000000 in
theorem dl_X2_turn_L6  {O : Type} {G_post G2_post : Mo → Bd → (O → Prop) → Prop} {G_e109 G2_e109 : Mo → Bd → Int32 → Int32 → (O → Prop) → Prop} (h_post : ∀ v0 v1, dt (G_post v0 v1) (G2_post v0 v1)) (h_e109 : ∀ v0 v1 v2 v3, dt (G_e109 v0 v1 v2 v3) (G2_e109 v0 v1 v2 v3)) : ∀ (n m : Nat) (t0 : Mo) (t1 : Bd) (z2 : Int32) (z3 : Int32), dt (fun P : O → Prop => wp_X2_turn_L6 (fun v0 v1 => G_post v0 v1 P) (fun v0 v1 v2 v3 => G_e109 v0 v1 v2 v3 P) n t0 t1 z2 z3) (fun P : O → Prop => wp_X2_turn_L6 (fun v0 v1 => G2_post v0 v1 P) (fun v0 v1 v2 v3 => G2_e109 v0 v1 v2 v3 P) m t0 t1 z2 z3) := by
  intro n
  induction n with
  | zero => exact fun _ _ _ _ _ => dt_F
  | succ n6 ih =>
    intro m t0 t1 z2 z3
    have key : ∀ m9 : Nat, dt (fun P : O → Prop => wp_X2_turn_L6 (fun v0 v1 => G_post v0 v1 P) (fun v0 v1 v2 v3 => G_e109 v0 v1 v2 v3 P) (n6 + 1) t0 t1 z2 z3) (fun P : O → Prop => wp_X2_turn_L6 (fun v0 v1 => G2_post v0 v1 P) (fun v0 v1 v2 v3 => G2_e109 v0 v1 v2 v3 P) (m9 + 1) t0 t1 z2 z3) := by
      intro m9
      unfold wp_X2_turn_L6
      exact (dt_p (h_e109 t0 t1 z2 z3) (dt_b1 (F := fun k => wp_X2_choose k t0 t1) (dt_X2_choose t0 t1) (fun u_5 => (dt_n (dt_x (fun n27 m_n27 => (dl_X2_turn_L27  (fun v0 v1 => (h_post v0 v1)) (fun t0 t1 z2 z3 z4 => (dt_b1 (F := fun k => wp_X2_countTick k t0 ((t0.1 0) * (t0.1 0))) (dt_X2_countTick t0 ((t0.1 0) * (t0.1 0))) (fun u_12 => (ih m9 u_12 ((va_up (va_up t1.1 4 ((t1.1 4) + ((t0.1 0) * (t0.1 0)))) 5 ((t1.1 5) + 1)), t1.2.1, t1.2.2.1, t1.2.2.2.1, t1.2.2.2.2) z2 (z3 + 1))))) n27 m_n27 u_5 t1 z2 z3 0))) (h_post u_5 t1)))))
    cases m with
    | zero => exact dt_0 (key 0)
    | succ m9 => exact key m9
set_option maxHeartbeats 4000000 in
theorem dt_X2_turn (s0 : Mo) (s1 : Bd) (x2 : Int32) : dt (fun P : (Mo × Bd) → Prop => wp_X2_turn (fun a0 a1 => P (a0, a1)) s0 s1 x2) (fun P : (Mo × Bd) → Prop => wp_X2_turn (fun a0 a1 => P (a0, a1)) s0 s1 x2) := by
  unfold wp_X2_turn
  exact (dt_b1 (F := fun k => wp_X2_startCounting k s0) (dt_X2_startCounting s0) (fun u_2 => (dt_x (fun n6 m_n6 => (dl_X2_turn_L6  (fun v0 v1 => (dt_r _)) (fun t0 t1 z2 z3 => (dt_r _)) n6 m_n6 u_2 s1 x2 0)))))
set_option maxHeartbeats 4000000 in
theorem dl_X2_chosenBits_L4 (s0 : Mo) {O : Type} {G_post G2_post : Int64 → (O → Prop) → Prop} {G_e29 G2_e29 : Int64 → Int32 → (O → Prop) → Prop} (h_post : ∀ v0, dt (G_post v0) (G2_post v0)) (h_e29 : ∀ v0 v1, dt (G_e29 v0 v1) (G2_e29 v0 v1)) : ∀ (n m : Nat) (w1 : Int64) (z3 : Int32), dt (fun P : O → Prop => wp_X2_chosenBits_L4 s0 (fun v0 => G_post v0 P) (fun v0 v1 => G_e29 v0 v1 P) n w1 z3) (fun P : O → Prop => wp_X2_chosenBits_L4 s0 (fun v0 => G2_post v0 P) (fun v0 v1 => G2_e29 v0 v1 P) m w1 z3) := by
  intro n
  induction n with
  | zero => exact fun _ _ _ => dt_F
  | succ n4 ih =>
    intro m w1 z3
    have key : ∀ m9 : Nat, dt (fun P : O → Prop => wp_X2_chosenBits_L4 s0 (fun v0 => G_post v0 P) (fun v0 v1 => G_e29 v0 v1 P) (n4 + 1) w1 z3) (fun P : O → Prop => wp_X2_chosenBits_L4 s0 (fun v0 => G2_post v0 P) (fun v0 v1 => G2_e29 v0 v1 P) (m9 + 1) w1 z3) := by
      intro m9
      unfold wp_X2_chosenBits_L4
      exact (dt_p (h_e29 w1 z3) (dt_c (ih m9 (w1 ||| ((1 : Int64) <<< ((Int32.toInt64 ((s0.2 2) (Int32.toNatClampNeg z3))) &&& 63))) (z3 + 1))))
    cases m with
    | zero => exact dt_0 (key 0)
    | succ m9 => exact key m9
set_option maxHeartbeats 4000000 in
theorem dt_X2_chosenBits (s0 : Mo) : dt (fun P : Int64 → Prop => wp_X2_chosenBits (fun a0 => P a0) s0) (fun P : Int64 → Prop => wp_X2_chosenBits (fun a0 => P a0) s0) := by
  unfold wp_X2_chosenBits
  exact (dt_x (fun n4 m_n4 => (dl_X2_chosenBits_L4 s0 (fun v0 => (dt_r _)) (fun w1 z3 => (dt_r _)) n4 m_n4 0 0)))
set_option maxHeartbeats 4000000 in
theorem dt_X4_hasStep (s0 : Pg) (x1 : Int32) : dt (fun P : Int32 → Prop => wp_X4_hasStep (fun a0 => P a0) s0 x1) (fun P : Int32 → Prop => wp_X4_hasStep (fun a0 => P a0) s0 x1) := by
  unfold wp_X4_hasStep
  exact (dt_p (dt_r _) (dt_p (dt_r _) (dt_r _)))
set_option maxHeartbeats 4000000 in
theorem dt_X4_kindOf (s0 : Pg) (x1 : Int32) : dt (fun P : Int32 → Prop => wp_X4_kindOf (fun a0 => P a0) s0 x1) (fun P : Int32 → Prop => wp_X4_kindOf (fun a0 => P a0) s0 x1) := by
  unfold wp_X4_kindOf
  exact (dt_b1 (F := fun k => wp_X4_hasStep k s0 x1) (dt_X4_hasStep s0 x1) (fun r_1 => (dt_p (dt_r _) (dt_c (dt_r _)))))
set_option maxHeartbeats 4000000 in
theorem dt_X4_oneOf (s0 : Pg) (x1 : Int32) : dt (fun P : Int32 → Prop => wp_X4_oneOf (fun a0 => P a0) s0 x1) (fun P : Int32 → Prop => wp_X4_oneOf (fun a0 => P a0) s0 x1) := by
  unfold wp_X4_oneOf
  exact (dt_b1 (F := fun k => wp_X4_hasStep k s0 x1) (dt_X4_hasStep s0 x1) (fun r_1 => (dt_p (dt_r _) (dt_c (dt_r _)))))
set_option maxHeartbeats 4000000 in
theorem dt_X4_twoOf (s0 : Pg) (x1 : Int32) : dt (fun P : Int32 → Prop => wp_X4_twoOf (fun a0 => P a0) s0 x1) (fun P : Int32 → Prop => wp_X4_twoOf (fun a0 => P a0) s0 x1) := by
  unfold wp_X4_twoOf
  exact (dt_b1 (F := fun k => wp_X4_hasStep k s0 x1) (dt_X4_hasStep s0 x1) (fun r_1 => (dt_p (dt_r _) (dt_c (dt_r _)))))
set_option maxHeartbeats 4000000 in
theorem dt_X4_quotedOf (s0 : Pg) (x1 : Int32) : dt (fun P : Int32 → Prop => wp_X4_quotedOf (fun a0 => P a0) s0 x1) (fun P : Int32 → Prop => wp_X4_quotedOf (fun a0 => P a0) s0 x1) := by
  unfold wp_X4_quotedOf
  exact (dt_b1 (F := fun k => wp_X4_hasStep k s0 x1) (dt_X4_hasStep s0 x1) (fun r_1 => (dt_p (dt_r _) (dt_c (dt_r _)))))
set_option maxHeartbeats 4000000 in
theorem dt_X4_endOf (s0 : Pg) (x1 : Int32) : dt (fun P : Int32 → Prop => wp_X4_endOf (fun a0 => P a0) s0 x1) (fun P : Int32 → Prop => wp_X4_endOf (fun a0 => P a0) s0 x1) := by
  unfold wp_X4_endOf
  exact (dt_b1 (F := fun k => wp_X4_hasStep k s0 x1) (dt_X4_hasStep s0 x1) (fun r_1 => (dt_p (dt_r _) (dt_c (dt_r _)))))
set_option maxHeartbeats 4000000 in
theorem dt_X4_startDoing (s0 : Pg) : dt (fun P : Pg → Prop => wp_X4_startDoing (fun a0 => P a0) s0) (fun P : Pg → Prop => wp_X4_startDoing (fun a0 => P a0) s0) := by
  unfold wp_X4_startDoing
  exact (dt_r _)
set_option maxHeartbeats 4000000 in
theorem dl_X4_goOn_L99  {O : Type} {G_post G2_post : Pg → (O → Prop) → Prop} {G_e198 G2_e198 : Pg → Int32 → (O → Prop) → Prop} (h_post : ∀ v0, dt (G_post v0) (G2_post v0)) (h_e198 : ∀ v0 v1, dt (G_e198 v0 v1) (G2_e198 v0 v1)) : ∀ (n m : Nat) (t0 : Pg) (z1 : Int32), dt (fun P : O → Prop => wp_X4_goOn_L99 (fun v0 => G_post v0 P) (fun v0 v1 => G_e198 v0 v1 P) n t0 z1) (fun P : O → Prop => wp_X4_goOn_L99 (fun v0 => G2_post v0 P) (fun v0 v1 => G2_e198 v0 v1 P) m t0 z1) := by
  intro n
  induction n with
  | zero => exact fun _ _ _ => dt_F
  | succ n99 ih =>
    intro m t0 z1
    have key : ∀ m9 : Nat, dt (fun P : O → Prop => wp_X4_goOn_L99 (fun v0 => G_post v0 P) (fun v0 v1 => G_e198 v0 v1 P) (n99 + 1) t0 z1) (fun P : O → Prop => wp_X4_goOn_L99 (fun v0 => G2_post v0 P) (fun v0 v1 => G2_e198 v0 v1 P) (m9 + 1) t0 z1) := by
      intro m9
      unfold wp_X4_goOn_L99
      exact (dt_p (h_e198 t0 z1) (dt_p (h_e198 t0 z1) (dt_c (dt_b1 (F := fun k => wp_X4_endOf k t0 ((t0.2 5) (Int32.toNatClampNeg ((t0.1 0) - 1)))) (dt_X4_endOf t0 ((t0.2 5) (Int32.toNatClampNeg ((t0.1 0) - 1)))) (fun r_9 => (dt_n (h_e198 t0 z1) (dt_c (dt_p (ih m9 ((va_up t0.1 0 ((t0.1 0) - 1)), t0.2) (z1 + 1)) (dt_c (dt_c (dt_c (ih m9 ((va_up t0.1 2 (((t0.2 5) (Int32.toNatClampNeg ((t0.1 0) - 1))) + 1)), (va_up t0.2 6 (upd (t0.2 6) (Int32.toNatClampNeg ((t0.1 0) - 1)) (((t0.2 6) (Int32.toNatClampNeg ((t0.1 0) - 1))) - 1)))) (z1 + 1)))))))))))))
    cases m with
    | zero => exact dt_0 (key 0)
    | succ m9 => exact key m9
set_option maxHeartbeats 4000000 in
theorem dl_X4_goOn_L99b  {O : Type} {G_post G2_post : Pg → (O → Prop) → Prop} {G_e198 G2_e198 : Pg → Int32 → (O → Prop) → Prop} (h_post : ∀ v0, dt (G_post v0) (G2_post v0)) (h_e198 : ∀ v0 v1, dt (G_e198 v0 v1) (G2_e198 v0 v1)) : ∀ (n m : Nat) (t0 : Pg) (z1 : Int32), dt (fun P : O → Prop => wp_X4_goOn_L99b (fun v0 => G_post v0 P) (fun v0 v1 => G_e198 v0 v1 P) n t0 z1) (fun P : O → Prop => wp_X4_goOn_L99b (fun v0 => G2_post v0 P) (fun v0 v1 => G2_e198 v0 v1 P) m t0 z1) := by
  intro n
  induction n with
  | zero => exact fun _ _ _ => dt_F
  | succ n99 ih =>
    intro m t0 z1
    have key : ∀ m9 : Nat, dt (fun P : O → Prop => wp_X4_goOn_L99b (fun v0 => G_post v0 P) (fun v0 v1 => G_e198 v0 v1 P) (n99 + 1) t0 z1) (fun P : O → Prop => wp_X4_goOn_L99b (fun v0 => G2_post v0 P) (fun v0 v1 => G2_e198 v0 v1 P) (m9 + 1) t0 z1) := by
      intro m9
      unfold wp_X4_goOn_L99b
      exact (dt_p (h_e198 t0 z1) (dt_p (h_e198 t0 z1) (dt_c (dt_b1 (F := fun k => wp_X4_endOf k t0 ((t0.2 5) (Int32.toNatClampNeg ((t0.1 0) - 1)))) (dt_X4_endOf t0 ((t0.2 5) (Int32.toNatClampNeg ((t0.1 0) - 1)))) (fun r_25 => (dt_n (h_e198 t0 z1) (dt_c (dt_p (ih m9 ((va_up t0.1 0 ((t0.1 0) - 1)), t0.2) (z1 + 1)) (dt_c (dt_c (dt_c (ih m9 ((va_up t0.1 2 (((t0.2 5) (Int32.toNatClampNeg ((t0.1 0) - 1))) + 1)), (va_up t0.2 6 (upd (t0.2 6) (Int32.toNatClampNeg ((t0.1 0) - 1)) (((t0.2 6) (Int32.toNatClampNeg ((t0.1 0) - 1))) - 1)))) (z1 + 1)))))))))))))
    cases m with
    | zero => exact dt_0 (key 0)
    | succ m9 => exact key m9
set_option maxHeartbeats 4000000 in
theorem dl_X4_goOn_L99bb  {O : Type} {G_post G2_post : Pg → (O → Prop) → Prop} {G_e198 G2_e198 : Pg → Int32 → (O → Prop) → Prop} (h_post : ∀ v0, dt (G_post v0) (G2_post v0)) (h_e198 : ∀ v0 v1, dt (G_e198 v0 v1) (G2_e198 v0 v1)) : ∀ (n m : Nat) (t0 : Pg) (z1 : Int32), dt (fun P : O → Prop => wp_X4_goOn_L99bb (fun v0 => G_post v0 P) (fun v0 v1 => G_e198 v0 v1 P) n t0 z1) (fun P : O → Prop => wp_X4_goOn_L99bb (fun v0 => G2_post v0 P) (fun v0 v1 => G2_e198 v0 v1 P) m t0 z1) := by
  intro n
  induction n with
  | zero => exact fun _ _ _ => dt_F
  | succ n99 ih =>
    intro m t0 z1
    have key : ∀ m9 : Nat, dt (fun P : O → Prop => wp_X4_goOn_L99bb (fun v0 => G_post v0 P) (fun v0 v1 => G_e198 v0 v1 P) (n99 + 1) t0 z1) (fun P : O → Prop => wp_X4_goOn_L99bb (fun v0 => G2_post v0 P) (fun v0 v1 => G2_e198 v0 v1 P) (m9 + 1) t0 z1) := by
      intro m9
      unfold wp_X4_goOn_L99bb
      exact (dt_p (h_e198 t0 z1) (dt_p (h_e198 t0 z1) (dt_c (dt_b1 (F := fun k => wp_X4_endOf k t0 ((t0.2 5) (Int32.toNatClampNeg ((t0.1 0) - 1)))) (dt_X4_endOf t0 ((t0.2 5) (Int32.toNatClampNeg ((t0.1 0) - 1)))) (fun r_39 => (dt_n (h_e198 t0 z1) (dt_c (dt_p (ih m9 ((va_up t0.1 0 ((t0.1 0) - 1)), t0.2) (z1 + 1)) (dt_c (dt_c (dt_c (ih m9 ((va_up t0.1 2 (((t0.2 5) (Int32.toNatClampNeg ((t0.1 0) - 1))) + 1)), (va_up t0.2 6 (upd (t0.2 6) (Int32.toNatClampNeg ((t0.1 0) - 1)) (((t0.2 6) (Int32.toNatClampNeg ((t0.1 0) - 1))) - 1)))) (z1 + 1)))))))))))))
    cases m with
    | zero => exact dt_0 (key 0)
    | succ m9 => exact key m9
set_option maxHeartbeats 4000000 in
theorem dt_X4_goOn (s0 : Pg) : dt (fun P : Pg → Prop => wp_X4_goOn (fun a0 => P a0) s0) (fun P : Pg → Prop => wp_X4_goOn (fun a0 => P a0) s0) := by
  unfold wp_X4_goOn
  exact (dt_b1 (F := fun k => wp_X4_kindOf k s0 (s0.1 2)) (dt_X4_kindOf s0 (s0.1 2)) (fun r_1 => (dt_n (dt_b1 (F := fun k => wp_X4_endOf k s0 (s0.1 2)) (dt_X4_endOf s0 (s0.1 2)) (fun r_4 => (dt_x (fun n99 m_n99 => (dl_X4_goOn_L99  (fun v0 => (dt_r _)) (fun t0 z1 => (dt_r _)) n99 m_n99 ((va_up s0.1 2 r_4), s0.2) 0))))) (dt_b1 (F := fun k => wp_X4_oneOf k s0 (s0.1 2)) (dt_X4_oneOf s0 (s0.1 2)) (fun r_17 => (dt_p (dt_b1 (F := fun k => wp_X4_endOf k s0 (s0.1 2)) (dt_X4_endOf s0 (s0.1 2)) (fun r_20 => (dt_x (fun n99 m_n99 => (dl_X4_goOn_L99b  (fun v0 => (dt_r _)) (fun t0 z1 => (dt_r _)) n99 m_n99 ((va_up s0.1 2 r_20), s0.2) 0))))) (dt_p (dt_b1 (F := fun k => wp_X4_endOf k s0 (s0.1 2)) (dt_X4_endOf s0 (s0.1 2)) (fun r_34 => (dt_x (fun n99 m_n99 => (dl_X4_goOn_L99bb  (fun v0 => (dt_r _)) (fun t0 z1 => (dt_r _)) n99 m_n99 ((va_up s0.1 2 r_34), s0.2) 0))))) (dt_c (dt_b1 (F := fun k => wp_X4_oneOf k (s0.1, (va_up s0.2 5 (upd (s0.2 5) (Int32.toNatClampNeg (s0.1 0)) (s0.1 2)))) (s0.1 2)) (dt_X4_oneOf (s0.1, (va_up s0.2 5 (upd (s0.2 5) (Int32.toNatClampNeg (s0.1 0)) (s0.1 2)))) (s0.1 2)) (fun r_48 => (dt_c (dt_r _))))))))))))
set_option maxHeartbeats 4000000 in
theorem dt_X4_openTimes (s0 : Pg) (s1 : Tp) : dt (fun P : (Pg × Tp) → Prop => wp_X4_openTimes (fun a0 a1 => P (a0, a1)) s0 s1) (fun P : (Pg × Tp) → Prop => wp_X4_openTimes (fun a0 a1 => P (a0, a1)) s0 s1) := by
  unfold wp_X4_openTimes
  exact (dt_b2 (F := fun k => wp_X5_peek k s1) (dt_X5_peek s1) (fun r_1 u_2 => (dt_n (dt_b1 (F := fun k => wp_X5_takeByte k u_2 (40 : Int32)) (dt_X5_takeByte u_2 (40 : Int32)) (fun u_5 => (dt_b1 (F := fun k => wp_X5_isSound k u_5) (dt_X5_isSound u_5) (fun r_6 => (dt_p (dt_r _) (dt_c (dt_r _))))))) (dt_p (dt_b1 (F := fun k => wp_X5_takeByte k u_2 (40 : Int32)) (dt_X5_takeByte u_2 (40 : Int32)) (fun u_12 => (dt_b1 (F := fun k => wp_X5_isSound k u_12) (dt_X5_isSound u_12) (fun r_13 => (dt_p (dt_r _) (dt_c (dt_r _))))))) (dt_b1 (F := fun k => wp_X5_blame k u_2 (u_2.1 1) (3 : Int32)) (dt_X5_blame u_2 (u_2.1 1) (3 : Int32)) (fun u_18 => (dt_b1 (F := fun k => wp_X5_takeByte k u_18 (40 : Int32)) (dt_X5_takeByte u_18 (40 : Int32)) (fun u_20 => (dt_b1 (F := fun k => wp_X5_isSound k u_20) (dt_X5_isSound u_20) (fun r_21 => (dt_p (dt_r _) (dt_c (dt_r _)))))))))))))
set_option maxHeartbeats 4000000 in
theorem dt_X4_addStep (s0 : Pg) (x1 : Int32) (x2 : Int32) (x3 : Int32) (x4 : Int32) : dt (fun P : Pg → Prop => wp_X4_addStep (fun a0 => P a0) s0 x1 x2 x3 x4) (fun P : Pg → Prop => wp_X4_addStep (fun a0 => P a0) s0 x1 x2 x3 x4) := by
  unfold wp_X4_addStep
  exact (dt_p (dt_r _) (dt_c (dt_c (dt_c (dt_c (dt_c (dt_r _)))))))
set_option maxHeartbeats 4000000 in
theorem dt_X4_readStep (s0 : Pg) (s1 : Tp) (s2 : Bd) (x1 : Int32) : dt (fun P : (Pg × Tp) → Prop => wp_X4_readStep (fun a0 a1 => P (a0, a1)) s0 s1 s2 x1) (fun P : (Pg × Tp) → Prop => wp_X4_readStep (fun a0 a1 => P (a0, a1)) s0 s1 s2 x1) := by
  unfold wp_X4_readStep
  exact (dt_p (dt_b2 (F := fun k => wp_X5_takeNumber k ((va_up s1.1 4 0), s1.2) (0 : Int32) ((s2.1 0) - 1)) (dt_X5_takeNumber ((va_up s1.1 4 0), s1.2) (0 : Int32) ((s2.1 0) - 1)) (fun r_2 u_3 => (dt_b1 (F := fun k => wp_X5_takeQuoted k u_3 (0 : Int32) (s2.1 1)) (dt_X5_takeQuoted u_3 (0 : Int32) (s2.1 1)) (fun u_5 => (dt_b1 (F := fun k => wp_X5_isSound k u_5) (dt_X5_isSound u_5) (fun r_6 => (dt_p (dt_r _) (dt_b1 (F := fun k => wp_X4_addStep k s0 x1 r_2 (u_5.1 3) (u_5.1 4)) (dt_X4_addStep s0 x1 r_2 (u_5.1 3) (u_5.1 4)) (fun u_10 => (dt_r _)))))))))) (dt_p (dt_b1 (F := fun k => wp_X0_cells k s2) (dt_X0_cells s2) (fun r_12 => (dt_b2 (F := fun k => wp_X5_takeNumber k ((va_up s1.1 4 0), s1.2) (0 : Int32) (r_12 - 1)) (dt_X5_takeNumber ((va_up s1.1 4 0), s1.2) (0 : Int32) (r_12 - 1)) (fun r_14 u_15 => (dt_b2 (F := fun k => wp_X5_takeNumber k u_15 (0 : Int32) (9 : Int32)) (dt_X5_takeNumber u_15 (0 : Int32) (9 : Int32)) (fun r_16 u_17 => (dt_b1 (F := fun k => wp_X5_isSound k u_17) (dt_X5_isSound u_17) (fun r_18 => (dt_p (dt_r _) (dt_b1 (F := fun k => wp_X4_addStep k s0 x1 r_14 r_16 (u_17.1 4)) (dt_X4_addStep s0 x1 r_14 r_16 (u_17.1 4)) (fun u_22 => (dt_r _)))))))))))) (dt_p (dt_b1 (F := fun k => wp_X5_takeQuoted k ((va_up s1.1 4 0), s1.2) (0 : Int32) (s2.1 1)) (dt_X5_takeQuoted ((va_up s1.1 4 0), s1.2) (0 : Int32) (s2.1 1)) (fun u_25 => (dt_b1 (F := fun k => wp_X5_isSound k u_25) (dt_X5_isSound u_25) (fun r_26 => (dt_p (dt_r _) (dt_b1 (F := fun k => wp_X4_addStep k s0 x1 (0 : Int32) (u_25.1 3) (u_25.1 4)) (dt_X4_addStep s0 x1 (0 : Int32) (u_25.1 3) (u_25.1 4)) (fun u_30 => (dt_r _)))))))) (dt_p (dt_b2 (F := fun k => wp_X5_takeNumber k ((va_up s1.1 4 0), s1.2) (0 : Int32) ((s2.1 0) - 1)) (dt_X5_takeNumber ((va_up s1.1 4 0), s1.2) (0 : Int32) ((s2.1 0) - 1)) (fun r_32 u_33 => (dt_b1 (F := fun k => wp_X5_isSound k u_33) (dt_X5_isSound u_33) (fun r_34 => (dt_p (dt_r _) (dt_b1 (F := fun k => wp_X4_addStep k s0 x1 r_32 (0 : Int32) (u_33.1 4)) (dt_X4_addStep s0 x1 r_32 (0 : Int32) (u_33.1 4)) (fun u_38 => (dt_r _)))))))) (dt_p (dt_b2 (F := fun k => wp_X5_takeNumber k ((va_up s1.1 4 0), s1.2) (1 : Int32) (99 : Int32)) (dt_X5_takeNumber ((va_up s1.1 4 0), s1.2) (1 : Int32) (99 : Int32)) (fun r_40 u_41 => (dt_b1 (F := fun k => wp_X5_isSound k u_41) (dt_X5_isSound u_41) (fun r_42 => (dt_p (dt_r _) (dt_b1 (F := fun k => wp_X4_addStep k s0 x1 r_40 (0 : Int32) (u_41.1 4)) (dt_X4_addStep s0 x1 r_40 (0 : Int32) (u_41.1 4)) (fun u_46 => (dt_r _)))))))) (dt_p (dt_b1 (F := fun k => wp_X5_isSound k ((va_up s1.1 4 0), s1.2)) (dt_X5_isSound ((va_up s1.1 4 0), s1.2)) (fun r_48 => (dt_p (dt_r _) (dt_b1 (F := fun k => wp_X4_addStep k s0 x1 (0 : Int32) (0 : Int32) (0 : Int32)) (dt_X4_addStep s0 x1 (0 : Int32) (0 : Int32) (0 : Int32)) (fun u_52 => (dt_r _)))))) (dt_p (dt_b2 (F := fun k => wp_X5_takeNumber k ((va_up s1.1 4 0), s1.2) (0 : Int32) (20 : Int32)) (dt_X5_takeNumber ((va_up s1.1 4 0), s1.2) (0 : Int32) (20 : Int32)) (fun r_54 u_55 => (dt_b2 (F := fun k => wp_X4_openTimes k s0 u_55) (dt_X4_openTimes s0 u_55) (fun u_57a u_57b => (dt_b1 (F := fun k => wp_X5_isSound k u_57b) (dt_X5_isSound u_57b) (fun r_58 => (dt_p (dt_r _) (dt_b1 (F := fun k => wp_X4_addStep k u_57a x1 r_54 (0 : Int32) (u_57b.1 4)) (dt_X4_addStep u_57a x1 r_54 (0 : Int32) (u_57b.1 4)) (fun u_62 => (dt_r _)))))))))) (dt_b1 (F := fun k => wp_X5_blame k ((va_up s1.1 4 0), s1.2) (s1.1 2) (1 : Int32)) (dt_X5_blame ((va_up s1.1 4 0), s1.2) (s1.1 2) (1 : Int32)) (fun u_64 => (dt_b1 (F := fun k => wp_X5_isSound k u_64) (dt_X5_isSound u_64) (fun r_65 => (dt_p (dt_r _) (dt_b1 (F := fun k => wp_X4_addStep k s0 x1 (0 : Int32) (0 : Int32) (u_64.1 4)) (dt_X4_addStep s0 x1 (0 : Int32) (0 : Int32) (u_64.1 4)) (fun u_69 => (dt_r _)))))))))))))))
set_option maxHeartbeats 4000000 in
theorem dt_X4_closeTimes (s0 : Pg) (x1 : Int32) : dt (fun P : Pg → Prop => wp_X4_closeTimes (fun a0 => P a0) s0 x1) (fun P : Pg → Prop => wp_X4_closeTimes (fun a0 => P a0) s0 x1) := by
  unfold wp_X4_closeTimes
  exact (dt_b1 (F := fun k => wp_X4_hasStep k s0 x1) (dt_X4_hasStep s0 x1) (fun r_1 => (dt_p (dt_r _) (dt_c (dt_r _)))))
set_option maxHeartbeats 4000000 in
theorem dl_X4_goesOn_L2  {O : Type} {G_post G2_post : Int32 → Pg → Tp → (O → Prop) → Prop} {G_e105 G2_e105 : Pg → Tp → Int32 → (O → Prop) → Prop} (h_post : ∀ v0 v1 v2, dt (G_post v0 v1 v2) (G2_post v0 v1 v2)) (h_e105 : ∀ v0 v1 v2, dt (G_e105 v0 v1 v2) (G2_e105 v0 v1 v2)) : ∀ (n m : Nat) (t0 : Pg) (t1 : Tp) (z2 : Int32), dt (fun P : O → Prop => wp_X4_goesOn_L2 (fun v0 v1 v2 => G_post v0 v1 v2 P) (fun v0 v1 v2 => G_e105 v0 v1 v2 P) n t0 t1 z2) (fun P : O → Prop => wp_X4_goesOn_L2 (fun v0 v1 v2 => G2_post v0 v1 v2 P) (fun v0 v1 v2 => G2_e105 v0 v1 v2 P) m t0 t1 z2) := by
  intro n
  induction n with
  | zero => exact fun _ _ _ _ => dt_F
  | succ n2 ih =>
    intro m t0 t1 z2
    have key : ∀ m9 : Nat, dt (fun P : O → Prop => wp_X4_goesOn_L2 (fun v0 v1 v2 => G_post v0 v1 v2 P) (fun v0 v1 v2 => G_e105 v0 v1 v2 P) (n2 + 1) t0 t1 z2) (fun P : O → Prop => wp_X4_goesOn_L2 (fun v0 v1 v2 => G2_post v0 v1 v2 P) (fun v0 v1 v2 => G2_e105 v0 v1 v2 P) (m9 + 1) t0 t1 z2) := by
      intro m9
      unfold wp_X4_goesOn_L2
      exact (dt_p (h_e105 t0 t1 z2) (dt_b2 (F := fun k => wp_X5_peek k t1) (dt_X5_peek t1) (fun r_2 u_3 => (dt_n (dt_n (dt_n (dt_b1 (F := fun k => wp_X5_blame k u_3 (u_3.1 1) (1 : Int32)) (dt_X5_blame u_3 (u_3.1 1) (1 : Int32)) (fun u_8 => (h_post 0 t0 u_8))) (dt_p (h_post 0 t0 u_3) (dt_b1 (F := fun k => wp_X5_blame k u_3 (u_3.1 1) (1 : Int32)) (dt_X5_blame u_3 (u_3.1 1) (1 : Int32)) (fun u_11 => (h_post 0 t0 u_11))))) (dt_p (dt_c (dt_b1 (F := fun k => wp_X4_closeTimes k ((va_up t0.1 0 ((t0.1 0) - 1)), t0.2) ((t0.2 5) (Int32.toNatClampNeg ((t0.1 0) - 1)))) (dt_X4_closeTimes ((va_up t0.1 0 ((t0.1 0) - 1)), t0.2) ((t0.2 5) (Int32.toNatClampNeg ((t0.1 0) - 1)))) (fun u_15 => (ih m9 u_15 ((va_up u_3.1 1 ((u_3.1 1) + 1)), u_3.2) (z2 + 1))))) (dt_n (dt_b1 (F := fun k => wp_X5_blame k u_3 (u_3.1 1) (1 : Int32)) (dt_X5_blame u_3 (u_3.1 1) (1 : Int32)) (fun u_18 => (h_post 0 t0 u_18))) (dt_p (h_post 0 t0 u_3) (dt_b1 (F := fun k => wp_X5_blame k u_3 (u_3.1 1) (1 : Int32)) (dt_X5_blame u_3 (u_3.1 1) (1 : Int32)) (fun u_21 => (h_post 0 t0 u_21))))))) (h_post 1 t0 ((va_up u_3.1 1 ((u_3.1 1) + 1)), u_3.2))))))
    cases m with
    | zero => exact dt_0 (key 0)
    | succ m9 => exact key m9
set_option maxHeartbeats 4000000 in
theorem dt_X4_goesOn (s0 : Pg) (s1 : Tp) : dt (fun P : (Int32 × Pg × Tp) → Prop => wp_X4_goesOn (fun a0 a1 a2 => P (a0, a1, a2)) s0 s1) (fun P : (Int32 × Pg × Tp) → Prop => wp_X4_goesOn (fun a0 a1 a2 => P (a0, a1, a2)) s0 s1) := by
  unfold wp_X4_goesOn
  exact (dt_x (fun n2 m_n2 => (dl_X4_goesOn_L2  (fun v0 v1 v2 => (dt_r _)) (fun t0 t1 z2 => (dt_r _)) n2 m_n2 s0 s1 0)))
set_option maxHeartbeats 4000000 in
theorem dl_X4_readFrom_L19 (s2 : Bd) {O : Type} {G_post G2_post : Pg → Tp → (O → Prop) → Prop} {G_e78 G2_e78 : Pg → Tp → Int32 → Int32 → (O → Prop) → Prop} (h_post : ∀ v0 v1, dt (G_post v0 v1) (G2_post v0 v1)) (h_e78 : ∀ v0 v1 v2 v3, dt (G_e78 v0 v1 v2 v3) (G2_e78 v0 v1 v2 v3)) : ∀ (n m : Nat) (t0 : Pg) (t1 : Tp) (z3 : Int32) (z4 : Int32), dt (fun P : O → Prop => wp_X4_readFrom_L19 s2 (fun v0 v1 => G_post v0 v1 P) (fun v0 v1 v2 v3 => G_e78 v0 v1 v2 v3 P) n t0 t1 z3 z4) (fun P : O → Prop => wp_X4_readFrom_L19 s2 (fun v0 v1 => G2_post v0 v1 P) (fun v0 v1 v2 v3 => G2_e78 v0 v1 v2 v3 P) m t0 t1 z3 z4) := by
  intro n
  induction n with
  | zero => exact fun _ _ _ _ _ => dt_F
  | succ n19 ih =>
    intro m t0 t1 z3 z4
    have key : ∀ m9 : Nat, dt (fun P : O → Prop => wp_X4_readFrom_L19 s2 (fun v0 v1 => G_post v0 v1 P) (fun v0 v1 v2 v3 => G_e78 v0 v1 v2 v3 P) (n19 + 1) t0 t1 z3 z4) (fun P : O → Prop => wp_X4_readFrom_L19 s2 (fun v0 v1 => G2_post v0 v1 P) (fun v0 v1 v2 v3 => G2_e78 v0 v1 v2 v3 P) (m9 + 1) t0 t1 z3 z4) := by
      intro m9
      unfold wp_X4_readFrom_L19
      exact (dt_p (h_e78 t0 t1 z3 z4) (dt_p (h_e78 t0 t1 z3 z4) (dt_b2 (F := fun k => wp_X5_takeWord k t1) (dt_X5_takeWord t1) (fun r_5 u_6 => (dt_b2 (F := fun k => wp_X4_readStep k t0 u_6 s2 r_5) (dt_X4_readStep t0 u_6 s2 r_5) (fun u_8a u_8b => (dt_b1 (F := fun k => wp_X5_isSound k u_8b) (dt_X5_isSound u_8b) (fun r_9 => (dt_p (ih m9 u_8a u_8b 0 (z4 + 1)) (dt_p (ih m9 u_8a u_8b 1 (z4 + 1)) (dt_b3 (F := fun k => wp_X4_goesOn k u_8a u_8b) (dt_X4_goesOn u_8a u_8b) (fun r_13 u_14a u_14b => (dt_p (ih m9 u_14a u_14b 0 (z4 + 1)) (ih m9 u_14a u_14b 1 (z4 + 1)))))))))))))))
    cases m with
    | zero => exact dt_0 (key 0)
    | succ m9 => exact key m9
set_option maxHeartbeats 4000000 in
theorem dt_X4_readFrom (s0 : Pg) (s1 : Tp) (s2 : Bd) : dt (fun P : (Pg × Tp) → Prop => wp_X4_readFrom (fun a0 a1 => P (a0, a1)) s0 s1 s2) (fun P : (Pg × Tp) → Prop => wp_X4_readFrom (fun a0 a1 => P (a0, a1)) s0 s1 s2) := by
  unfold wp_X4_readFrom
  exact (dt_b1 (F := fun k => wp_X5_startReading k s1) (dt_X5_startReading s1) (fun u_2 => (dt_x (fun n19 m_n19 => (dl_X4_readFrom_L19 s2 (fun v0 v1 => (dt_r _)) (fun t0 t1 z3 z4 => (dt_r _)) n19 m_n19 ((va_up (va_up s0.1 0 0) 1 0), s0.2) u_2 1 0)))))
set_option maxHeartbeats 4000000 in
theorem dl_X5_addNumber_L3  {O : Type} {G_post G2_post : Tp → (O → Prop) → Prop} {G_e49 G2_e49 : Tp → Int32 → Int32 → (O → Prop) → Prop} (h_post : ∀ v0, dt (G_post v0) (G2_post v0)) (h_e49 : ∀ v0 v1 v2, dt (G_e49 v0 v1 v2) (G2_e49 v0 v1 v2)) : ∀ (n m : Nat) (t0 : Tp) (z1 : Int32) (z2 : Int32), dt (fun P : O → Prop => wp_X5_addNumber_L3 (fun v0 => G_post v0 P) (fun v0 v1 v2 => G_e49 v0 v1 v2 P) n t0 z1 z2) (fun P : O → Prop => wp_X5_addNumber_L3 (fun v0 => G2_post v0 P) (fun v0 v1 v2 => G2_e49 v0 v1 v2 P) m t0 z1 z2) := by
  intro n
  induction n with
  | zero => exact fun _ _ _ _ => dt_F
  | succ n3 ih =>
    intro m t0 z1 z2
    have key : ∀ m9 : Nat, dt (fun P : O → Prop => wp_X5_addNumber_L3 (fun v0 => G_post v0 P) (fun v0 v1 v2 => G_e49 v0 v1 v2 P) (n3 + 1) t0 z1 z2) (fun P : O → Prop => wp_X5_addNumber_L3 (fun v0 => G2_post v0 P) (fun v0 v1 v2 => G2_e49 v0 v1 v2 P) (m9 + 1) t0 z1 z2) := by
      intro m9
      unfold wp_X5_addNumber_L3
      exact (dt_p (h_e49 t0 z1 z2) (dt_p (ih m9 t0 z1 (z2 + (-8))) (dt_c (ih m9 ((va_up t0.1 0 ((t0.1 0) + 1)), (upd t0.2 (Int32.toNatClampNeg (t0.1 0)) ((z1 >>> (z2 &&& 31)) &&& 255))) z1 (z2 + (-8))))))
    cases m with
    | zero => exact dt_0 (key 0)
    | succ m9 => exact key m9
set_option maxHeartbeats 4000000 in
theorem dt_X5_addNumber (s0 : Tp) (x1 : Int32) : dt (fun P : Tp → Prop => wp_X5_addNumber (fun a0 => P a0) s0 x1) (fun P : Tp → Prop => wp_X5_addNumber (fun a0 => P a0) s0 x1) := by
  unfold wp_X5_addNumber
  exact (dt_x (fun n3 m_n3 => (dl_X5_addNumber_L3  (fun v0 => (dt_r _)) (fun t0 z1 z2 => (dt_r _)) n3 m_n3 s0 x1 24)))
set_option maxHeartbeats 4000000 in
theorem dt_X6_feed (s1 : Tp) (x1 : Int32) (x2 : Int32) (x3 : Int32) (x4 : Int32) (x5 : Int32) : dt (fun P : (Int32 × Tp) → Prop => wp_X6_feed (fun a0 a1 => P (a0, a1)) s1 x1 x2 x3 x4 x5) (fun P : (Int32 × Tp) → Prop => wp_X6_feed (fun a0 a1 => P (a0, a1)) s1 x1 x2 x3 x4 x5) := by
  unfold wp_X6_feed
  exact (dt_p (dt_b1 (F := fun k => wp_X5_addNumber k s1 x1) (dt_X5_addNumber s1 x1) (fun u_3 => (dt_b1 (F := fun k => wp_X5_addNumber k u_3 x2) (dt_X5_addNumber u_3 x2) (fun u_5 => (dt_b1 (F := fun k => wp_X5_addNumber k u_5 x3) (dt_X5_addNumber u_5 x3) (fun u_7 => (dt_b1 (F := fun k => wp_X5_addNumber k u_7 x4) (dt_X5_addNumber u_7 x4) (fun u_9 => (dt_b1 (F := fun k => wp_X5_addNumber k u_9 x5) (dt_X5_addNumber u_9 x5) (fun u_11 => (dt_r _))))))))))) (dt_r _))
set_option maxHeartbeats 4000000 in
theorem dt_X6_end (s1 : Tp) (x1 : Int32) : dt (fun P : (Int32 × Tp) → Prop => wp_X6_end (fun a0 a1 => P (a0, a1)) s1 x1) (fun P : (Int32 × Tp) → Prop => wp_X6_end (fun a0 a1 => P (a0, a1)) s1 x1) := by
  unfold wp_X6_end
  exact (dt_p (dt_r _) (dt_p (dt_r _) (dt_r _)))
set_option maxHeartbeats 4000000 in
theorem dl_X6_isRowText_L15 (s1 : Tp) (s2 : Bd) {O : Type} {G_post G2_post : Int32 → (O → Prop) → Prop} {G_e44 G2_e44 : Int32 → Int32 → Int32 → (O → Prop) → Prop} (h_post : ∀ v0, dt (G_post v0) (G2_post v0)) (h_e44 : ∀ v0 v1 v2, dt (G_e44 v0 v1 v2) (G2_e44 v0 v1 v2)) : ∀ (n m : Nat) (z1 : Int32) (z2 : Int32) (z3 : Int32), dt (fun P : O → Prop => wp_X6_isRowText_L15 s1 s2 (fun v0 => G_post v0 P) (fun v0 v1 v2 => G_e44 v0 v1 v2 P) n z1 z2 z3) (fun P : O → Prop => wp_X6_isRowText_L15 s1 s2 (fun v0 => G2_post v0 P) (fun v0 v1 v2 => G2_e44 v0 v1 v2 P) m z1 z2 z3) := by
  intro n
  induction n with
  | zero => exact fun _ _ _ _ => dt_F
  | succ n15 ih =>
    intro m z1 z2 z3
    have key : ∀ m9 : Nat, dt (fun P : O → Prop => wp_X6_isRowText_L15 s1 s2 (fun v0 => G_post v0 P) (fun v0 v1 v2 => G_e44 v0 v1 v2 P) (n15 + 1) z1 z2 z3) (fun P : O → Prop => wp_X6_isRowText_L15 s1 s2 (fun v0 => G2_post v0 P) (fun v0 v1 v2 => G2_e44 v0 v1 v2 P) (m9 + 1) z1 z2 z3) := by
      intro m9
      unfold wp_X6_isRowText_L15
      exact (dt_p (h_e44 z1 z2 z3) (dt_b1 (F := fun k => wp_X5_byteAt k s1 (z1 + z3)) (dt_X5_byteAt s1 (z1 + z3)) (fun r_3 => (dt_b1 (F := fun k => wp_X6_isSign k r_3) (dt_X6_isSign r_3) (fun r_5 => (dt_n (ih m9 z1 z2 (z3 + 1)) (h_post 0)))))))
    cases m with
    | zero => exact dt_0 (key 0)
    | succ m9 => exact key m9
set_option maxHeartbeats 4000000 in
theorem dt_X6_isRowText (s1 : Tp) (s2 : Bd) (x1 : Int32) (x2 : Int32) : dt (fun P : Int32 → Prop => wp_X6_isRowText (fun a0 => P a0) s1 s2 x1 x2) (fun P : Int32 → Prop => wp_X6_isRowText (fun a0 => P a0) s1 s2 x1 x2) := by
  unfold wp_X6_isRowText
  exact (dt_p (dt_x (fun n15 m_n15 => (dl_X6_isRowText_L15 s1 s2 (fun v0 => (dt_r _)) (fun z1 z2 z3 => (dt_r _)) n15 m_n15 x1 x2 0))) (dt_r _))
set_option maxHeartbeats 4000000 in
theorem dt_X6_whyNotRow (s1 : Tp) (s2 : Bd) (x1 : Int32) : dt (fun P : Int32 → Prop => wp_X6_whyNotRow (fun a0 => P a0) s1 s2 x1) (fun P : Int32 → Prop => wp_X6_whyNotRow (fun a0 => P a0) s1 s2 x1) := by
  unfold wp_X6_whyNotRow
  exact (dt_b1 (F := fun k => wp_X0_hasRow k s2 x1) (dt_X0_hasRow s2 x1) (fun r_1 => (dt_n (dt_b1 (F := fun k => wp_X6_isRowText k s1 s2 (0 : Int32) (s1.1 0)) (dt_X6_isRowText s1 s2 (0 : Int32) (s1.1 0)) (fun r_4 => (dt_p (dt_r _) (dt_r _)))) (dt_r _))))
set_option maxHeartbeats 4000000 in
theorem dt_X6_whyNotProgram (s1 : Tp) (s2 : Bd) (s5 : Pg) : dt (fun P : (Int32 × Tp × Pg) → Prop => wp_X6_whyNotProgram (fun a0 a1 a2 => P (a0, a1, a2)) s1 s2 s5) (fun P : (Int32 × Tp × Pg) → Prop => wp_X6_whyNotProgram (fun a0 a1 a2 => P (a0, a1, a2)) s1 s2 s5) := by
  unfold wp_X6_whyNotProgram
  exact (dt_b1 (F := fun k => wp_X0_isThere k s2) (dt_X0_isThere s2) (fun r_1 => (dt_n (dt_b2 (F := fun k => wp_X4_readFrom k s5 s1 s2) (dt_X4_readFrom s5 s1 s2) (fun u_5a u_5b => (dt_b1 (F := fun k => wp_X5_isSound k u_5b) (dt_X5_isSound u_5b) (fun r_6 => (dt_p (dt_r _) (dt_r _)))))) (dt_r _))))
set_option maxHeartbeats 4000000 in
theorem dt_X6_doStep (s1 : Tp) (s2 : Bd) (s4 : Mo) (s5 : Pg) (x1 : Int32) : dt (fun P : (Bd × Mo) → Prop => wp_X6_doStep (fun a0 a1 => P (a0, a1)) s1 s2 s4 s5 x1) (fun P : (Bd × Mo) → Prop => wp_X6_doStep (fun a0 a1 => P (a0, a1)) s1 s2 s4 s5 x1) := by
  unfold wp_X6_doStep
  exact (dt_b1 (F := fun k => wp_X4_oneOf k s5 x1) (dt_X4_oneOf s5 x1) (fun r_1 => (dt_b1 (F := fun k => wp_X4_twoOf k s5 x1) (dt_X4_twoOf s5 x1) (fun r_3 => (dt_b1 (F := fun k => wp_X4_kindOf k s5 x1) (dt_X4_kindOf s5 x1) (fun r_5 => (dt_p (dt_b1 (F := fun k => wp_X4_quotedOf k s5 x1) (dt_X4_quotedOf s5 x1) (fun r_8 => (dt_b2 (F := fun k => wp_X0_wantSigns k s2 s1 r_1 r_3 r_8) (dt_X0_wantSigns s2 s1 r_1 r_3 r_8) (fun r_10 u_11 => (dt_r _))))) (dt_p (dt_b1 (F := fun k => wp_X0_setLost k s2 r_1 r_3) (dt_X0_setLost s2 r_1 r_3) (fun u_14 => (dt_r _))) (dt_p (dt_b1 (F := fun k => wp_X4_quotedOf k s5 x1) (dt_X4_quotedOf s5 x1) (fun r_16 => (dt_b2 (F := fun k => wp_X0_scrollUp k s2 s1 r_3 r_16) (dt_X0_scrollUp s2 s1 r_3 r_16) (fun r_18 u_19 => (dt_r _))))) (dt_p (dt_b1 (F := fun k => wp_X0_wantHome k s2 r_1) (dt_X0_wantHome s2 r_1) (fun u_22 => (dt_r _))) (dt_p (dt_b2 (F := fun k => wp_X2_turn k s4 s2 r_1) (dt_X2_turn s4 s2 r_1) (fun u_25a u_25b => (dt_r _))) (dt_p (dt_b2 (F := fun k => wp_X2_turn k s4 s2 (9999 : Int32)) (dt_X2_turn s4 s2 (9999 : Int32)) (fun u_28a u_28b => (dt_r _))) (dt_r _)))))))))))))
set_option maxHeartbeats 4000000 in
theorem dl_X6_doProgram_L9 (s1 : Tp) {O : Type} {G_post G2_post : Int32 → Bd → Mo → Pg → (O → Prop) → Prop} {G_e59 G2_e59 : Bd → Mo → Pg → Int32 → (O → Prop) → Prop} (h_post : ∀ v0 v1 v2 v3, dt (G_post v0 v1 v2 v3) (G2_post v0 v1 v2 v3)) (h_e59 : ∀ v0 v1 v2 v3, dt (G_e59 v0 v1 v2 v3) (G2_e59 v0 v1 v2 v3)) : ∀ (n m : Nat) (t2 : Bd) (t3 : Mo) (t4 : Pg) (z1 : Int32), dt (fun P : O → Prop => wp_X6_doProgram_L9 s1 (fun v0 v1 v2 v3 => G_post v0 v1 v2 v3 P) (fun v0 v1 v2 v3 => G_e59 v0 v1 v2 v3 P) n t2 t3 t4 z1) (fun P : O → Prop => wp_X6_doProgram_L9 s1 (fun v0 v1 v2 v3 => G2_post v0 v1 v2 v3 P) (fun v0 v1 v2 v3 => G2_e59 v0 v1 v2 v3 P) m t2 t3 t4 z1) := by
  intro n
  induction n with
  | zero => exact fun _ _ _ _ _ => dt_F
  | succ n9 ih =>
    intro m t2 t3 t4 z1
    have key : ∀ m9 : Nat, dt (fun P : O → Prop => wp_X6_doProgram_L9 s1 (fun v0 v1 v2 v3 => G_post v0 v1 v2 v3 P) (fun v0 v1 v2 v3 => G_e59 v0 v1 v2 v3 P) (n9 + 1) t2 t3 t4 z1) (fun P : O → Prop => wp_X6_doProgram_L9 s1 (fun v0 v1 v2 v3 => G2_post v0 v1 v2 v3 P) (fun v0 v1 v2 v3 => G2_e59 v0 v1 v2 v3 P) (m9 + 1) t2 t3 t4 z1) := by
      intro m9
      unfold wp_X6_doProgram_L9
      exact (dt_p (h_e59 t2 t3 t4 z1) (dt_b1 (F := fun k => wp_X4_hasStep k t4 (t4.1 2)) (dt_X4_hasStep t4 (t4.1 2)) (fun r_4 => (dt_n (dt_b2 (F := fun k => wp_X6_doStep k s1 t2 t3 t4 (t4.1 2)) (dt_X6_doStep s1 t2 t3 t4 (t4.1 2)) (fun u_8a u_8b => (dt_b1 (F := fun k => wp_X4_goOn k t4) (dt_X4_goOn t4) (fun u_10 => (ih m9 u_8a u_8b u_10 (z1 + 1)))))) (h_post z1 t2 t3 t4)))))
    cases m with
    | zero => exact dt_0 (key 0)
    | succ m9 => exact key m9
set_option maxHeartbeats 4000000 in
theorem dt_X6_doProgram (s1 : Tp) (s2 : Bd) (s4 : Mo) (s5 : Pg) : dt (fun P : (Int32 × Bd × Mo × Pg) → Prop => wp_X6_doProgram (fun a0 a1 a2 a3 => P (a0, a1, a2, a3)) s1 s2 s4 s5) (fun P : (Int32 × Bd × Mo × Pg) → Prop => wp_X6_doProgram (fun a0 a1 a2 a3 => P (a0, a1, a2, a3)) s1 s2 s4 s5) := by
  unfold wp_X6_doProgram
  exact (dt_b1 (F := fun k => wp_X4_startDoing k s5) (dt_X4_startDoing s5) (fun u_2 => (dt_x (fun n9 m_n9 => (dl_X6_doProgram_L9 s1 (fun v0 v1 v2 v3 => (dt_r _)) (fun t2 t3 t4 z1 => (dt_r _)) n9 m_n9 s2 s4 u_2 0)))))
set_option maxHeartbeats 4000000 in
theorem dt_X6_isShelf (x0 : Int32) : dt (fun P : Int32 → Prop => wp_X6_isShelf (fun a0 => P a0) x0) (fun P : Int32 → Prop => wp_X6_isShelf (fun a0 => P a0) x0) := by
  unfold wp_X6_isShelf
  exact (dt_p (dt_r _) (dt_p (dt_r _) (dt_r _)))
set_option maxHeartbeats 4000000 in
theorem dt_X6_cell (s2 : Bd) (x1 : Int32) (x2 : Int32) : dt (fun P : Int32 → Prop => wp_X6_cell (fun a0 => P a0) s2 x1 x2) (fun P : Int32 → Prop => wp_X6_cell (fun a0 => P a0) s2 x1 x2) := by
  unfold wp_X6_cell
  exact (dt_b1 (F := fun k => wp_X0_hasCell k s2 x1) (dt_X0_hasCell s2 x1) (fun r_1 => (dt_n (dt_p (dt_c (dt_r _)) (dt_p (dt_c (dt_r _)) (dt_p (dt_c (dt_r _)) (dt_p (dt_c (dt_r _)) (dt_p (dt_b1 (F := fun k => wp_X0_leftOf k s2 x1) (dt_X0_leftOf s2 x1) (fun r_13 => (dt_r _))) (dt_p (dt_c (dt_r _)) (dt_p (dt_c (dt_r _)) (dt_p (dt_c (dt_r _)) (dt_p (dt_b1 (F := fun k => wp_X0_wornCount k s2 x1) (dt_X0_wornCount s2 x1) (fun r_22 => (dt_r _))) (dt_r _)))))))))) (dt_r _))))
set_option maxHeartbeats 4000000 in
theorem dt_X6_worn (s2 : Bd) (x1 : Int32) : dt (fun P : Int64 → Prop => wp_X6_worn (fun a0 => P a0) s2 x1) (fun P : Int64 → Prop => wp_X6_worn (fun a0 => P a0) s2 x1) := by
  unfold wp_X6_worn
  exact (dt_b1 (F := fun k => wp_X0_hasCell k s2 x1) (dt_X0_hasCell s2 x1) (fun r_1 => (dt_p (dt_r _) (dt_c (dt_r _)))))
set_option maxHeartbeats 4000000 in
theorem dt_X6_drum (s2 : Bd) (x1 : Int32) (x2 : Int32) : dt (fun P : Int32 → Prop => wp_X6_drum (fun a0 => P a0) s2 x1 x2) (fun P : Int32 → Prop => wp_X6_drum (fun a0 => P a0) s2 x1 x2) := by
  unfold wp_X6_drum
  exact (dt_b1 (F := fun k => wp_X0_hasDrum k s2 x1) (dt_X0_hasDrum s2 x1) (fun r_1 => (dt_n (dt_p (dt_c (dt_r _)) (dt_p (dt_b1 (F := fun k => wp_X0_flapsOn k s2 x1) (dt_X0_flapsOn s2 x1) (fun r_7 => (dt_r _))) (dt_p (dt_b1 (F := fun k => wp_X0_cellsWith k s2 x1) (dt_X0_cellsWith s2 x1) (fun r_10 => (dt_r _))) (dt_p (dt_b1 (F := fun k => wp_X0_unlikeSigns k s2 x1) (dt_X0_unlikeSigns s2 x1) (fun r_13 => (dt_r _))) (dt_p (dt_b1 (F := fun k => wp_X0_mostOfOneSign k s2 x1) (dt_X0_mostOfOneSign s2 x1) (fun r_16 => (dt_r _))) (dt_r _)))))) (dt_r _))))
set_option maxHeartbeats 4000000 in
theorem dt_X6_sign (s2 : Bd) (x1 : Int32) (x2 : Int32) : dt (fun P : Int32 → Prop => wp_X6_sign (fun a0 => P a0) s2 x1 x2) (fun P : Int32 → Prop => wp_X6_sign (fun a0 => P a0) s2 x1 x2) := by
  unfold wp_X6_sign
  exact (dt_b1 (F := fun k => wp_X0_signOf k s2 x1 x2) (dt_X0_signOf s2 x1 x2) (fun r_1 => (dt_r _)))
set_option maxHeartbeats 4000000 in
theorem dt_X6_at (s2 : Bd) (x1 : Int32) (x2 : Int32) (x3 : Int32) : dt (fun P : Int32 → Prop => wp_X6_at (fun a0 => P a0) s2 x1 x2 x3) (fun P : Int32 → Prop => wp_X6_at (fun a0 => P a0) s2 x1 x2 x3) := by
  unfold wp_X6_at
  exact (dt_b1 (F := fun k => wp_X0_hasRow k s2 x1) (dt_X0_hasRow s2 x1) (fun r_1 => (dt_p (dt_r _) (dt_p (dt_r _) (dt_p (dt_p (dt_c (dt_b1 (F := fun k => wp_X0_signOn k s2 ((x1 * (s2.1 1)) + x2) ((s2.2.1 4) (Int32.toNatClampNeg ((x1 * (s2.1 1)) + x2)))) (dt_X0_signOn s2 ((x1 * (s2.1 1)) + x2) ((s2.2.1 4) (Int32.toNatClampNeg ((x1 * (s2.1 1)) + x2)))) (fun r_8 => (dt_r _)))) (dt_p (dt_c (dt_b1 (F := fun k => wp_X0_signOn k s2 ((x1 * (s2.1 1)) + x2) ((s2.2.1 5) (Int32.toNatClampNeg ((x1 * (s2.1 1)) + x2)))) (dt_X0_signOn s2 ((x1 * (s2.1 1)) + x2) ((s2.2.1 5) (Int32.toNatClampNeg ((x1 * (s2.1 1)) + x2)))) (fun r_12 => (dt_r _)))) (dt_p (dt_c (dt_b1 (F := fun k => wp_X0_signOn k s2 ((x1 * (s2.1 1)) + x2) ((s2.2.1 6) (Int32.toNatClampNeg ((x1 * (s2.1 1)) + x2)))) (dt_X0_signOn s2 ((x1 * (s2.1 1)) + x2) ((s2.2.1 6) (Int32.toNatClampNeg ((x1 * (s2.1 1)) + x2)))) (fun r_16 => (dt_r _)))) (dt_r _)))) (dt_r _))))))
set_option maxHeartbeats 4000000 in
theorem dt_X6_isSuch (s2 : Bd) (x1 : Int32) (x2 : Int32) : dt (fun P : Int32 → Prop => wp_X6_isSuch (fun a0 => P a0) s2 x1 x2) (fun P : Int32 → Prop => wp_X6_isSuch (fun a0 => P a0) s2 x1 x2) := by
  unfold wp_X6_isSuch
  exact (dt_p (dt_b1 (F := fun k => wp_X0_leftOf k s2 x1) (dt_X0_leftOf s2 x1) (fun r_2 => (dt_p (dt_r _) (dt_r _)))) (dt_p (dt_c (dt_c (dt_p (dt_r _) (dt_r _)))) (dt_p (dt_b1 (F := fun k => wp_X0_showsWrong k s2 x1) (dt_X0_showsWrong s2 x1) (fun r_10 => (dt_c (dt_r _)))) (dt_p (dt_r _) (dt_p (dt_b1 (F := fun k => wp_X0_currentOf k s2 x1) (dt_X0_currentOf s2 x1) (fun r_15 => (dt_p (dt_r _) (dt_r _)))) (dt_r _))))))
set_option maxHeartbeats 4000000 in
theorem dl_X6_which_L52 (s2 : Bd) {O : Type} {G_post G2_post : Int64 → Mo → (O → Prop) → Prop} {G_e87 G2_e87 : Mo → Int32 → Int64 → Int32 → (O → Prop) → Prop} (h_post : ∀ v0 v1, dt (G_post v0 v1) (G2_post v0 v1)) (h_e87 : ∀ v0 v1 v2 v3, dt (G_e87 v0 v1 v2 v3) (G2_e87 v0 v1 v2 v3)) : ∀ (n m : Nat) (t2 : Mo) (z1 : Int32) (w2 : Int64) (z4 : Int32), dt (fun P : O → Prop => wp_X6_which_L52 s2 (fun v0 v1 => G_post v0 v1 P) (fun v0 v1 v2 v3 => G_e87 v0 v1 v2 v3 P) n t2 z1 w2 z4) (fun P : O → Prop => wp_X6_which_L52 s2 (fun v0 v1 => G2_post v0 v1 P) (fun v0 v1 v2 v3 => G2_e87 v0 v1 v2 v3 P) m t2 z1 w2 z4) := by
  intro n
  induction n with
  | zero => exact fun _ _ _ _ _ => dt_F
  | succ n52 ih =>
    intro m t2 z1 w2 z4
    have key : ∀ m9 : Nat, dt (fun P : O → Prop => wp_X6_which_L52 s2 (fun v0 v1 => G_post v0 v1 P) (fun v0 v1 v2 v3 => G_e87 v0 v1 v2 v3 P) (n52 + 1) t2 z1 w2 z4) (fun P : O → Prop => wp_X6_which_L52 s2 (fun v0 v1 => G2_post v0 v1 P) (fun v0 v1 v2 v3 => G2_e87 v0 v1 v2 v3 P) (m9 + 1) t2 z1 w2 z4) := by
      intro m9
      unfold wp_X6_which_L52
      exact (dt_b1 (F := fun k => wp_X0_cells k s2) (dt_X0_cells s2) (fun r_7 => (dt_p (h_e87 t2 z1 w2 z4) (dt_b1 (F := fun k => wp_X6_isSuch k s2 z4 z1) (dt_X6_isSuch s2 z4 z1) (fun r_10 => (dt_p (ih m9 t2 z1 w2 (z4 + 1)) (ih m9 t2 z1 (w2 ||| ((1 : Int64) <<< ((Int32.toInt64 z4) &&& 63))) (z4 + 1))))))))
    cases m with
    | zero => exact dt_0 (key 0)
    | succ m9 => exact key m9
set_option maxHeartbeats 4000000 in
theorem dt_X6_which (s2 : Bd) (s4 : Mo) (x1 : Int32) : dt (fun P : (Int64 × Mo) → Prop => wp_X6_which (fun a0 a1 => P (a0, a1)) s2 s4 x1) (fun P : (Int64 × Mo) → Prop => wp_X6_which (fun a0 a1 => P (a0, a1)) s2 s4 x1) := by
  unfold wp_X6_which
  exact (dt_b1 (F := fun k => wp_X0_isThere k s2) (dt_X0_isThere s2) (fun r_1 => (dt_p (dt_r _) (dt_p (dt_r _) (dt_p (dt_n (dt_x (fun n52 m_n52 => (dl_X6_which_L52 s2 (fun v0 v1 => (dt_r _)) (fun t2 z1 w2 z4 => (dt_r _)) n52 m_n52 s4 x1 0 0))) (dt_b1 (F := fun k => wp_X2_choose k s4 s2) (dt_X2_choose s4 s2) (fun u_14 => (dt_b1 (F := fun k => wp_X2_chosenBits k u_14) (dt_X2_chosenBits u_14) (fun r_15 => (dt_r _)))))) (dt_r _))))))
set_option maxHeartbeats 4000000 in
theorem dt_X6_leastTicks (s2 : Bd) : dt (fun P : Int32 → Prop => wp_X6_leastTicks (fun a0 => P a0) s2) (fun P : Int32 → Prop => wp_X6_leastTicks (fun a0 => P a0) s2) := by
  unfold wp_X6_leastTicks
  exact (dt_b1 (F := fun k => wp_X0_leftOfAll k s2 (1 : Int32)) (dt_X0_leftOfAll s2 (1 : Int32)) (fun r_1 => (dt_c (dt_b1 (F := fun k => wp_X0_mostLeft k s2) (dt_X0_mostLeft s2) (fun r_4 => (dt_r _))))))
set_option maxHeartbeats 4000000 in
theorem dt_X6_left (s2 : Bd) (x1 : Int32) : dt (fun P : Int32 → Prop => wp_X6_left (fun a0 => P a0) s2 x1) (fun P : Int32 → Prop => wp_X6_left (fun a0 => P a0) s2 x1) := by
  unfold wp_X6_left
  exact (dt_b1 (F := fun k => wp_X0_isThere k s2) (dt_X0_isThere s2) (fun r_1 => (dt_n (dt_p (dt_b1 (F := fun k => wp_X0_leftOfAll k s2 (0 : Int32)) (dt_X0_leftOfAll s2 (0 : Int32)) (fun r_5 => (dt_r _))) (dt_p (dt_b1 (F := fun k => wp_X0_mostLeft k s2) (dt_X0_mostLeft s2) (fun r_8 => (dt_r _))) (dt_p (dt_b1 (F := fun k => wp_X0_leftOfAll k s2 (1 : Int32)) (dt_X0_leftOfAll s2 (1 : Int32)) (fun r_11 => (dt_r _))) (dt_p (dt_b1 (F := fun k => wp_X6_leastTicks k s2) (dt_X6_leastTicks s2) (fun r_14 => (dt_r _))) (dt_r _))))) (dt_r _))))

set_option maxHeartbeats 4000000 in
theorem dt_X6_tryToSettle (s2 : Bd) (s3 : Bd) (s4 : Mo) : dt (fun P : (Bd × Mo) → Prop => wp_X6_tryToSettle (fun a0 a1 => P (a0, a1)) s2 s3 s4) (fun P : (Bd × Mo) → Prop => wp_X6_tryToSettle (fun a0 a1 => P (a0, a1)) s2 s3 s4) := by
  unfold wp_X6_tryToSettle
  exact (dt_b1 (F := fun k => wp_X0_copyAllButLog k s3 s2) (dt_X0_copyAllButLog s3 s2) (fun u_2 => (dt_b2 (F := fun k => wp_X2_turn k s4 u_2 (9999 : Int32)) (dt_X2_turn s4 u_2 (9999 : Int32)) (fun u_4a u_4b => (dt_r _)))))
set_option maxHeartbeats 4000000 in
theorem dt_X6_when (s2 : Bd) (s3 : Bd) (s4 : Mo) (x1 : Int32) : dt (fun P : (Int32 × Bd × Mo) → Prop => wp_X6_when (fun a0 a1 a2 => P (a0, a1, a2)) s2 s3 s4 x1) (fun P : (Int32 × Bd × Mo) → Prop => wp_X6_when (fun a0 a1 a2 => P (a0, a1, a2)) s2 s3 s4 x1) := by
  unfold wp_X6_when
  exact (dt_b1 (F := fun k => wp_X0_isThere k s2) (dt_X0_isThere s2) (fun r_1 => (dt_p (dt_r _) (dt_p (dt_r _) (dt_p (dt_b2 (F := fun k => wp_X6_tryToSettle k s2 s3 s4) (dt_X6_tryToSettle s2 s3 s4) (fun u_7a u_7b => (dt_p (dt_r _) (dt_p (dt_r _) (dt_p (dt_r _) (dt_p (dt_r _) (dt_p (dt_b1 (F := fun k => wp_X0_wrongCount k u_7a) (dt_X0_wrongCount u_7a) (fun r_13 => (dt_r _))) (dt_p (dt_r _) (dt_r _))))))))) (dt_r _))))))
set_option maxHeartbeats 4000000 in
theorem dt_X6_loudest (s2 : Bd) (s3 : Bd) (s4 : Mo) (x1 : Int32) : dt (fun P : (Int32 × Bd × Mo) → Prop => wp_X6_loudest (fun a0 a1 a2 => P (a0, a1, a2)) s2 s3 s4 x1) (fun P : (Int32 × Bd × Mo) → Prop => wp_X6_loudest (fun a0 a1 a2 => P (a0, a1, a2)) s2 s3 s4 x1) := by
  unfold wp_X6_loudest
  exact (dt_b1 (F := fun k => wp_X0_isThere k s2) (dt_X0_isThere s2) (fun r_1 => (dt_p (dt_r _) (dt_p (dt_r _) (dt_p (dt_b2 (F := fun k => wp_X6_tryToSettle k s2 s3 s4) (dt_X6_tryToSettle s2 s3 s4) (fun u_7a u_7b => (dt_n (dt_n (dt_r _) (dt_r _)) (dt_r _)))) (dt_r _))))))
set_option maxHeartbeats 4000000 in
theorem dt_X6_total (s2 : Bd) (x1 : Int32) : dt (fun P : Int32 → Prop => wp_X6_total (fun a0 => P a0) s2 x1) (fun P : Int32 → Prop => wp_X6_total (fun a0 => P a0) s2 x1) := by
  unfold wp_X6_total
  exact (dt_b1 (F := fun k => wp_X0_isThere k s2) (dt_X0_isThere s2) (fun r_1 => (dt_n (dt_p (dt_r _) (dt_p (dt_r _) (dt_p (dt_b1 (F := fun k => wp_X0_sumOf_8 k s2) (dt_X0_sumOf_8 s2) (fun r_7 => (dt_r _))) (dt_p (dt_b1 (F := fun k => wp_X0_sumOf_9 k s2) (dt_X0_sumOf_9 s2) (fun r_10 => (dt_r _))) (dt_r _))))) (dt_r _))))
set_option maxHeartbeats 4000000 in
theorem dl_X6_rests_L26 (s2 : Bd) {O : Type} {G_post G2_post : Int32 → Bd → Mo → (O → Prop) → Prop} {G_e77 G2_e77 : Bd → Mo → Int32 → Int32 → (O → Prop) → Prop} (h_post : ∀ v0 v1 v2, dt (G_post v0 v1 v2) (G2_post v0 v1 v2)) (h_e77 : ∀ v0 v1 v2 v3, dt (G_e77 v0 v1 v2 v3) (G2_e77 v0 v1 v2 v3)) : ∀ (n m : Nat) (t2 : Bd) (t3 : Mo) (z1 : Int32) (z2 : Int32), dt (fun P : O → Prop => wp_X6_rests_L26 s2 (fun v0 v1 v2 => G_post v0 v1 v2 P) (fun v0 v1 v2 v3 => G_e77 v0 v1 v2 v3 P) n t2 t3 z1 z2) (fun P : O → Prop => wp_X6_rests_L26 s2 (fun v0 v1 v2 => G2_post v0 v1 v2 P) (fun v0 v1 v2 v3 => G2_e77 v0 v1 v2 v3 P) m t2 t3 z1 z2) := by
  intro n
  induction n with
  | zero => exact fun _ _ _ _ _ => dt_F
  | succ n26 ih =>
    intro m t2 t3 z1 z2
    have key : ∀ m9 : Nat, dt (fun P : O → Prop => wp_X6_rests_L26 s2 (fun v0 v1 v2 => G_post v0 v1 v2 P) (fun v0 v1 v2 v3 => G_e77 v0 v1 v2 v3 P) (n26 + 1) t2 t3 z1 z2) (fun P : O → Prop => wp_X6_rests_L26 s2 (fun v0 v1 v2 => G2_post v0 v1 v2 P) (fun v0 v1 v2 v3 => G2_e77 v0 v1 v2 v3 P) (m9 + 1) t2 t3 z1 z2) := by
      intro m9
      unfold wp_X6_rests_L26
      exact (dt_p (h_e77 t2 t3 z1 z2) (dt_b1 (F := fun k => wp_X0_leftOf k t2 z1) (dt_X0_leftOf t2 z1) (fun r_7 => (dt_n (dt_b2 (F := fun k => wp_X2_turn k t3 t2 (1 : Int32)) (dt_X2_turn t3 t2 (1 : Int32)) (fun u_11a u_11b => (dt_n (ih m9 u_11b u_11a z1 (z2 + 1)) (h_post (-2) u_11b u_11a)))) (h_post z2 t2 t3)))))
    cases m with
    | zero => exact dt_0 (key 0)
    | succ m9 => exact key m9
set_option maxHeartbeats 4000000 in
theorem dt_X6_rests (s2 : Bd) (s3 : Bd) (s4 : Mo) (x1 : Int32) : dt (fun P : (Int32 × Bd × Mo) → Prop => wp_X6_rests (fun a0 a1 a2 => P (a0, a1, a2)) s2 s3 s4 x1) (fun P : (Int32 × Bd × Mo) → Prop => wp_X6_rests (fun a0 a1 a2 => P (a0, a1, a2)) s2 s3 s4 x1) := by
  unfold wp_X6_rests
  exact (dt_b1 (F := fun k => wp_X0_hasCell k s2 x1) (dt_X0_hasCell s2 x1) (fun r_1 => (dt_n (dt_b1 (F := fun k => wp_X0_copyAllButLog k s3 s2) (dt_X0_copyAllButLog s3 s2) (fun u_5 => (dt_x (fun n26 m_n26 => (dl_X6_rests_L26 s2 (fun v0 v1 v2 => (dt_r _)) (fun t2 t3 z1 z2 => (dt_r _)) n26 m_n26 u_5 s4 x1 0))))) (dt_r _))))
set_option maxHeartbeats 4000000 in
theorem dt_X6_cost (s1 : Tp) (s2 : Bd) (x1 : Int32) : dt (fun P : Int32 → Prop => wp_X6_cost (fun a0 => P a0) s1 s2 x1) (fun P : Int32 → Prop => wp_X6_cost (fun a0 => P a0) s1 s2 x1) := by
  unfold wp_X6_cost
  exact (dt_b1 (F := fun k => wp_X6_whyNotRow k s1 s2 x1) (dt_X6_whyNotRow s1 s2 x1) (fun r_1 => (dt_n (dt_r _) (dt_b1 (F := fun k => wp_X0_costOf k s2 s1 x1 (0 : Int32) (0 : Int32) (s1.1 0)) (dt_X0_costOf s2 s1 x1 (0 : Int32) (0 : Int32) (s1.1 0)) (fun r_4 => (dt_r _))))))
set_option maxHeartbeats 4000000 in
theorem dl_X6_best_L39 (s1 : Tp) (s2 : Bd) {O : Type} {G_post G2_post : Int32 → (O → Prop) → Prop} {G_e187 G2_e187 : Int32 → Int32 → Int32 → Int32 → Int32 → Int32 → Int32 → Int32 → (O → Prop) → Prop} (h_post : ∀ v0, dt (G_post v0) (G2_post v0)) (h_e187 : ∀ v0 v1 v2 v3 v4 v5 v6 v7, dt (G_e187 v0 v1 v2 v3 v4 v5 v6 v7) (G2_e187 v0 v1 v2 v3 v4 v5 v6 v7)) : ∀ (n m : Nat) (z1 : Int32) (z2 : Int32) (z3 : Int32) (z4 : Int32) (z5 : Int32) (z6 : Int32) (z7 : Int32) (z8 : Int32), dt (fun P : O → Prop => wp_X6_best_L39 s1 s2 (fun v0 => G_post v0 P) (fun v0 v1 v2 v3 v4 v5 v6 v7 => G_e187 v0 v1 v2 v3 v4 v5 v6 v7 P) n z1 z2 z3 z4 z5 z6 z7 z8) (fun P : O → Prop => wp_X6_best_L39 s1 s2 (fun v0 => G2_post v0 P) (fun v0 v1 v2 v3 v4 v5 v6 v7 => G2_e187 v0 v1 v2 v3 v4 v5 v6 v7 P) m z1 z2 z3 z4 z5 z6 z7 z8) := by
  intro n
  induction n with
  | zero => exact fun _ _ _ _ _ _ _ _ _ => dt_F
  | succ n39 ih =>
    intro m z1 z2 z3 z4 z5 z6 z7 z8
    have key : ∀ m9 : Nat, dt (fun P : O → Prop => wp_X6_best_L39 s1 s2 (fun v0 => G_post v0 P) (fun v0 v1 v2 v3 v4 v5 v6 v7 => G_e187 v0 v1 v2 v3 v4 v5 v6 v7 P) (n39 + 1) z1 z2 z3 z4 z5 z6 z7 z8) (fun P : O → Prop => wp_X6_best_L39 s1 s2 (fun v0 => G2_post v0 P) (fun v0 v1 v2 v3 v4 v5 v6 v7 => G2_e187 v0 v1 v2 v3 v4 v5 v6 v7 P) (m9 + 1) z1 z2 z3 z4 z5 z6 z7 z8) := by
      intro m9
      unfold wp_X6_best_L39
      exact (dt_p (h_e187 z1 z2 z3 z4 z5 z6 z7 z8) (dt_p (dt_b1 (F := fun k => wp_X6_isRowText k s1 s2 z4 (z8 - z4)) (dt_X6_isRowText s1 s2 z4 (z8 - z4)) (fun r_8 => (dt_n (dt_b1 (F := fun k => wp_X0_costOf k s2 s1 z1 (0 : Int32) z4 (z8 - z4)) (dt_X0_costOf s2 s1 z1 (0 : Int32) z4 (z8 - z4)) (fun r_11 => (dt_b1 (F := fun k => wp_X0_missesOf k s2 s1 z1 (0 : Int32) z4 (z8 - z4)) (dt_X0_missesOf s2 s1 z1 (0 : Int32) z4 (z8 - z4)) (fun r_13 => (dt_p (ih m9 z1 z2 (z3 + 1) (z8 + 1) z3 r_11 r_13 (z8 + 1)) (dt_p (ih m9 z1 z2 (z3 + 1) (z8 + 1) z3 r_11 r_13 (z8 + 1)) (dt_n (ih m9 z1 z2 (z3 + 1) (z8 + 1) z5 z6 z7 (z8 + 1)) (dt_p (ih m9 z1 z2 (z3 + 1) (z8 + 1) z5 z6 z7 (z8 + 1)) (ih m9 z1 z2 (z3 + 1) (z8 + 1) z3 r_11 r_13 (z8 + 1)))))))))) (h_post (-2))))) (dt_b1 (F := fun k => wp_X5_byteAt k s1 z8) (dt_X5_byteAt s1 z8) (fun r_19 => (dt_n (ih m9 z1 z2 z3 z4 z5 z6 z7 (z8 + 1)) (dt_b1 (F := fun k => wp_X6_isRowText k s1 s2 z4 (z8 - z4)) (dt_X6_isRowText s1 s2 z4 (z8 - z4)) (fun r_22 => (dt_n (dt_b1 (F := fun k => wp_X0_costOf k s2 s1 z1 (0 : Int32) z4 (z8 - z4)) (dt_X0_costOf s2 s1 z1 (0 : Int32) z4 (z8 - z4)) (fun r_25 => (dt_b1 (F := fun k => wp_X0_missesOf k s2 s1 z1 (0 : Int32) z4 (z8 - z4)) (dt_X0_missesOf s2 s1 z1 (0 : Int32) z4 (z8 - z4)) (fun r_27 => (dt_p (ih m9 z1 z2 (z3 + 1) (z8 + 1) z3 r_25 r_27 (z8 + 1)) (dt_p (ih m9 z1 z2 (z3 + 1) (z8 + 1) z3 r_25 r_27 (z8 + 1)) (dt_n (ih m9 z1 z2 (z3 + 1) (z8 + 1) z5 z6 z7 (z8 + 1)) (dt_p (ih m9 z1 z2 (z3 + 1) (z8 + 1) z5 z6 z7 (z8 + 1)) (ih m9 z1 z2 (z3 + 1) (z8 + 1) z3 r_25 r_27 (z8 + 1)))))))))) (h_post (-2))))))))))
    cases m with
    | zero => exact dt_0 (key 0)
    | succ m9 => exact key m9
set_option maxHeartbeats 4000000 in
theorem dt_X6_best (s1 : Tp) (s2 : Bd) (x1 : Int32) (x2 : Int32) : dt (fun P : Int32 → Prop => wp_X6_best (fun a0 => P a0) s1 s2 x1 x2) (fun P : Int32 → Prop => wp_X6_best (fun a0 => P a0) s1 s2 x1 x2) := by
  unfold wp_X6_best
  exact (dt_b1 (F := fun k => wp_X0_hasRow k s2 x1) (dt_X0_hasRow s2 x1) (fun r_1 => (dt_p (dt_r _) (dt_p (dt_r _) (dt_p (dt_x (fun n39 m_n39 => (dl_X6_best_L39 s1 s2 (fun v0 => (dt_r _)) (fun z1 z2 z3 z4 z5 z6 z7 z8 => (dt_n (dt_n (dt_r _) (dt_r _)) (dt_r _))) n39 m_n39 x1 x2 0 0 0 0 0 0))) (dt_r _))))))
set_option maxHeartbeats 4000000 in
theorem dl_X6_place_L58 (s1 : Tp) (s2 : Bd) {O : Type} {G_post G2_post : Int32 → (O → Prop) → Prop} {G_e153 G2_e153 : Int32 → Int32 → Int32 → Int32 → Int32 → Int32 → Int32 → (O → Prop) → Prop} (h_post : ∀ v0, dt (G_post v0) (G2_post v0)) (h_e153 : ∀ v0 v1 v2 v3 v4 v5 v6, dt (G_e153 v0 v1 v2 v3 v4 v5 v6) (G2_e153 v0 v1 v2 v3 v4 v5 v6)) : ∀ (n m : Nat) (z1 : Int32) (z2 : Int32) (z3 : Int32) (z4 : Int32) (z5 : Int32) (z6 : Int32) (z7 : Int32), dt (fun P : O → Prop => wp_X6_place_L58 s1 s2 (fun v0 => G_post v0 P) (fun v0 v1 v2 v3 v4 v5 v6 => G_e153 v0 v1 v2 v3 v4 v5 v6 P) n z1 z2 z3 z4 z5 z6 z7) (fun P : O → Prop => wp_X6_place_L58 s1 s2 (fun v0 => G2_post v0 P) (fun v0 v1 v2 v3 v4 v5 v6 => G2_e153 v0 v1 v2 v3 v4 v5 v6 P) m z1 z2 z3 z4 z5 z6 z7) := by
  intro n
  induction n with
  | zero => exact fun _ _ _ _ _ _ _ _ => dt_F
  | succ n58 ih =>
    intro m z1 z2 z3 z4 z5 z6 z7
    have key : ∀ m9 : Nat, dt (fun P : O → Prop => wp_X6_place_L58 s1 s2 (fun v0 => G_post v0 P) (fun v0 v1 v2 v3 v4 v5 v6 => G_e153 v0 v1 v2 v3 v4 v5 v6 P) (n58 + 1) z1 z2 z3 z4 z5 z6 z7) (fun P : O → Prop => wp_X6_place_L58 s1 s2 (fun v0 => G2_post v0 P) (fun v0 v1 v2 v3 v4 v5 v6 => G2_e153 v0 v1 v2 v3 v4 v5 v6 P) (m9 + 1) z1 z2 z3 z4 z5 z6 z7) := by
      intro m9
      unfold wp_X6_place_L58
      exact (dt_p (h_e153 z1 z2 z3 z4 z5 z6 z7) (dt_b1 (F := fun k => wp_X0_costOf k s2 s1 z1 z7 (0 : Int32) z3) (dt_X0_costOf s2 s1 z1 z7 (0 : Int32) z3) (fun r_11 => (dt_b1 (F := fun k => wp_X0_missesOf k s2 s1 z1 z7 (0 : Int32) z3) (dt_X0_missesOf s2 s1 z1 z7 (0 : Int32) z3) (fun r_13 => (dt_p (ih m9 z1 z2 z3 z7 r_11 r_13 (z7 + 1)) (dt_p (ih m9 z1 z2 z3 z7 r_11 r_13 (z7 + 1)) (dt_n (ih m9 z1 z2 z3 z4 z5 z6 (z7 + 1)) (dt_p (ih m9 z1 z2 z3 z4 z5 z6 (z7 + 1)) (ih m9 z1 z2 z3 z7 r_11 r_13 (z7 + 1)))))))))))
    cases m with
    | zero => exact dt_0 (key 0)
    | succ m9 => exact key m9
set_option maxHeartbeats 4000000 in
theorem dt_X6_place (s1 : Tp) (s2 : Bd) (x1 : Int32) (x2 : Int32) : dt (fun P : Int32 → Prop => wp_X6_place (fun a0 => P a0) s1 s2 x1 x2) (fun P : Int32 → Prop => wp_X6_place (fun a0 => P a0) s1 s2 x1 x2) := by
  unfold wp_X6_place
  exact (dt_b1 (F := fun k => wp_X0_hasRow k s2 x1) (dt_X0_hasRow s2 x1) (fun r_1 => (dt_p (dt_r _) (dt_p (dt_r _) (dt_p (dt_p (dt_r _) (dt_b1 (F := fun k => wp_X6_isRowText k s1 s2 (0 : Int32) (s1.1 0)) (dt_X6_isRowText s1 s2 (0 : Int32) (s1.1 0)) (fun r_7 => (dt_n (dt_x (fun n58 m_n58 => (dl_X6_place_L58 s1 s2 (fun v0 => (dt_r _)) (fun z1 z2 z3 z4 z5 z6 z7 => (dt_n (dt_r _) (dt_r _))) n58 m_n58 x1 x2 (s1.1 0) (-1) 0 0 0))) (dt_r _))))) (dt_r _))))))
set_option maxHeartbeats 4000000 in
theorem dt_X6_log (s2 : Bd) (x1 : Int32) (x2 : Int32) : dt (fun P : Int32 → Prop => wp_X6_log (fun a0 => P a0) s2 x1 x2) (fun P : Int32 → Prop => wp_X6_log (fun a0 => P a0) s2 x1 x2) := by
  unfold wp_X6_log
  exact (dt_b1 (F := fun k => wp_X0_hasDrum k s2 x1) (dt_X0_hasDrum s2 x1) (fun r_1 => (dt_n (dt_p (dt_b1 (F := fun k => wp_X0_journey k s2 x1) (dt_X0_journey s2 x1) (fun r_5 => (dt_r _))) (dt_p (dt_b1 (F := fun k => wp_X0_logSize k s2 x1) (dt_X0_logSize s2 x1) (fun r_8 => (dt_r _))) (dt_p (dt_b1 (F := fun k => wp_X0_unlikeEntries k s2 x1) (dt_X0_unlikeEntries s2 x1) (fun r_11 => (dt_r _))) (dt_r _)))) (dt_r _))))
set_option maxHeartbeats 4000000 in
theorem dt_X6_often (s2 : Bd) (x1 : Int32) (x2 : Int32) (x3 : Int32) : dt (fun P : Int32 → Prop => wp_X6_often (fun a0 => P a0) s2 x1 x2 x3) (fun P : Int32 → Prop => wp_X6_often (fun a0 => P a0) s2 x1 x2 x3) := by
  unfold wp_X6_often
  exact (dt_b1 (F := fun k => wp_X0_hasDrum k s2 x1) (dt_X0_hasDrum s2 x1) (fun r_1 => (dt_p (dt_r _) (dt_p (dt_r _) (dt_b1 (F := fun k => wp_X0_flapsOn k s2 x1) (dt_X0_flapsOn s2 x1) (fun r_5 => (dt_p (dt_b1 (F := fun k => wp_X0_entriesOf k s2 x1 x2 x3) (dt_X0_entriesOf s2 x1 x2 x3) (fun r_8 => (dt_r _))) (dt_r _))))))))
set_option maxHeartbeats 4000000 in
theorem dl_X6_usual_L30 (s2 : Bd) {O : Type} {G_post G2_post : Int32 → (O → Prop) → Prop} {G_e76 G2_e76 : Int32 → Int32 → Int32 → Int32 → Int32 → (O → Prop) → Prop} (h_post : ∀ v0, dt (G_post v0) (G2_post v0)) (h_e76 : ∀ v0 v1 v2 v3 v4, dt (G_e76 v0 v1 v2 v3 v4) (G2_e76 v0 v1 v2 v3 v4)) : ∀ (n m : Nat) (z1 : Int32) (z2 : Int32) (z3 : Int32) (z4 : Int32) (z5 : Int32), dt (fun P : O → Prop => wp_X6_usual_L30 s2 (fun v0 => G_post v0 P) (fun v0 v1 v2 v3 v4 => G_e76 v0 v1 v2 v3 v4 P) n z1 z2 z3 z4 z5) (fun P : O → Prop => wp_X6_usual_L30 s2 (fun v0 => G2_post v0 P) (fun v0 v1 v2 v3 v4 => G2_e76 v0 v1 v2 v3 v4 P) m z1 z2 z3 z4 z5) := by
  intro n
  induction n with
  | zero => exact fun _ _ _ _ _ _ => dt_F
  | succ n30 ih =>
    intro m z1 z2 z3 z4 z5
    have key : ∀ m9 : Nat, dt (fun P : O → Prop => wp_X6_usual_L30 s2 (fun v0 => G_post v0 P) (fun v0 v1 v2 v3 v4 => G_e76 v0 v1 v2 v3 v4 P) (n30 + 1) z1 z2 z3 z4 z5) (fun P : O → Prop => wp_X6_usual_L30 s2 (fun v0 => G2_post v0 P) (fun v0 v1 v2 v3 v4 => G2_e76 v0 v1 v2 v3 v4 P) (m9 + 1) z1 z2 z3 z4 z5) := by
      intro m9
      unfold wp_X6_usual_L30
      exact (dt_b1 (F := fun k => wp_X0_flapsOn k s2 z1) (dt_X0_flapsOn s2 z1) (fun r_6 => (dt_p (h_e76 z1 z2 z3 z4 z5) (dt_b1 (F := fun k => wp_X0_entriesOf k s2 z1 z5 (1 : Int32)) (dt_X0_entriesOf s2 z1 z5 (1 : Int32)) (fun r_9 => (dt_p (ih m9 z1 z2 z3 z4 (z5 + 1)) (ih m9 z1 z2 z5 r_9 (z5 + 1))))))))
    cases m with
    | zero => exact dt_0 (key 0)
    | succ m9 => exact key m9
set_option maxHeartbeats 4000000 in
theorem dt_X6_usual (s2 : Bd) (x1 : Int32) (x2 : Int32) : dt (fun P : Int32 → Prop => wp_X6_usual (fun a0 => P a0) s2 x1 x2) (fun P : Int32 → Prop => wp_X6_usual (fun a0 => P a0) s2 x1 x2) := by
  unfold wp_X6_usual
  exact (dt_b1 (F := fun k => wp_X0_hasDrum k s2 x1) (dt_X0_hasDrum s2 x1) (fun r_1 => (dt_p (dt_r _) (dt_p (dt_r _) (dt_p (dt_x (fun n30 m_n30 => (dl_X6_usual_L30 s2 (fun v0 => (dt_r _)) (fun z1 z2 z3 z4 z5 => (dt_n (dt_n (dt_r _) (dt_r _)) (dt_r _))) n30 m_n30 x1 x2 (-1) 0 0))) (dt_r _))))))
set_option maxHeartbeats 4000000 in
theorem dl_X6_better_L55 (s2 : Bd) {O : Type} {G_post G2_post : Int32 → (O → Prop) → Prop} {G_e100 G2_e100 : Int32 → Int32 → Int32 → Int32 → Int32 → Int32 → Int32 → Int32 → (O → Prop) → Prop} (h_post : ∀ v0, dt (G_post v0) (G2_post v0)) (h_e100 : ∀ v0 v1 v2 v3 v4 v5 v6 v7, dt (G_e100 v0 v1 v2 v3 v4 v5 v6 v7) (G2_e100 v0 v1 v2 v3 v4 v5 v6 v7)) : ∀ (n m : Nat) (z1 : Int32) (z2 : Int32) (z3 : Int32) (z4 : Int32) (z5 : Int32) (z6 : Int32) (z7 : Int32) (z8 : Int32), dt (fun P : O → Prop => wp_X6_better_L55 s2 (fun v0 => G_post v0 P) (fun v0 v1 v2 v3 v4 v5 v6 v7 => G_e100 v0 v1 v2 v3 v4 v5 v6 v7 P) n z1 z2 z3 z4 z5 z6 z7 z8) (fun P : O → Prop => wp_X6_better_L55 s2 (fun v0 => G2_post v0 P) (fun v0 v1 v2 v3 v4 v5 v6 v7 => G2_e100 v0 v1 v2 v3 v4 v5 v6 v7 P) m z1 z2 z3 z4 z5 z6 z7 z8) := by
  intro n
  induction n with
  | zero => exact fun _ _ _ _ _ _ _ _ _ => dt_F
  | succ n55 ih =>
    intro m z1 z2 z3 z4 z5 z6 z7 z8
    have key : ∀ m9 : Nat, dt (fun P : O → Prop => wp_X6_better_L55 s2 (fun v0 => G_post v0 P) (fun v0 v1 v2 v3 v4 v5 v6 v7 => G_e100 v0 v1 v2 v3 v4 v5 v6 v7 P) (n55 + 1) z1 z2 z3 z4 z5 z6 z7 z8) (fun P : O → Prop => wp_X6_better_L55 s2 (fun v0 => G2_post v0 P) (fun v0 v1 v2 v3 v4 v5 v6 v7 => G2_e100 v0 v1 v2 v3 v4 v5 v6 v7 P) (m9 + 1) z1 z2 z3 z4 z5 z6 z7 z8) := by
      intro m9
      unfold wp_X6_better_L55
      exact (dt_p (h_e100 z1 z2 z3 z4 z5 z6 z7 z8) (dt_b1 (F := fun k => wp_X0_journeyChange k s2 z1 z7 z8) (dt_X0_journeyChange s2 z1 z7 z8) (fun r_10 => (dt_p (ih m9 z1 z2 z3 z4 z5 z6 z7 (z8 + 1)) (ih m9 z1 z2 z3 r_10 z7 z8 z7 (z8 + 1))))))
    cases m with
    | zero => exact dt_0 (key 0)
    | succ m9 => exact key m9
set_option maxHeartbeats 4000000 in
theorem dl_X6_better_L43 (s2 : Bd) {O : Type} {G_post G2_post : Int32 → (O → Prop) → Prop} {G_e106 G2_e106 : Int32 → Int32 → Int32 → Int32 → Int32 → Int32 → Int32 → (O → Prop) → Prop} (h_post : ∀ v0, dt (G_post v0) (G2_post v0)) (h_e106 : ∀ v0 v1 v2 v3 v4 v5 v6, dt (G_e106 v0 v1 v2 v3 v4 v5 v6) (G2_e106 v0 v1 v2 v3 v4 v5 v6)) : ∀ (n m : Nat) (z1 : Int32) (z2 : Int32) (z3 : Int32) (z4 : Int32) (z5 : Int32) (z6 : Int32) (z7 : Int32), dt (fun P : O → Prop => wp_X6_better_L43 s2 (fun v0 => G_post v0 P) (fun v0 v1 v2 v3 v4 v5 v6 => G_e106 v0 v1 v2 v3 v4 v5 v6 P) n z1 z2 z3 z4 z5 z6 z7) (fun P : O → Prop => wp_X6_better_L43 s2 (fun v0 => G2_post v0 P) (fun v0 v1 v2 v3 v4 v5 v6 => G2_e106 v0 v1 v2 v3 v4 v5 v6 P) m z1 z2 z3 z4 z5 z6 z7) := by
  intro n
  induction n with
  | zero => exact fun _ _ _ _ _ _ _ _ => dt_F
  | succ n43 ih =>
    intro m z1 z2 z3 z4 z5 z6 z7
    have key : ∀ m9 : Nat, dt (fun P : O → Prop => wp_X6_better_L43 s2 (fun v0 => G_post v0 P) (fun v0 v1 v2 v3 v4 v5 v6 => G_e106 v0 v1 v2 v3 v4 v5 v6 P) (n43 + 1) z1 z2 z3 z4 z5 z6 z7) (fun P : O → Prop => wp_X6_better_L43 s2 (fun v0 => G2_post v0 P) (fun v0 v1 v2 v3 v4 v5 v6 => G2_e106 v0 v1 v2 v3 v4 v5 v6 P) (m9 + 1) z1 z2 z3 z4 z5 z6 z7) := by
      intro m9
      unfold wp_X6_better_L43
      exact (dt_p (h_e106 z1 z2 z3 z4 z5 z6 z7) (dt_x (fun n55 m_n55 => (dl_X6_better_L55 s2 (fun v0 => (h_post v0)) (fun z1 z2 z3 z4 z5 z6 z7 z8 => (ih m9 z1 z2 z3 z4 z5 z6 (z7 + 1))) n55 m_n55 z1 z2 z3 z4 z5 z6 z7 (z7 + 1)))))
    cases m with
    | zero => exact dt_0 (key 0)
    | succ m9 => exact key m9
set_option maxHeartbeats 4000000 in
theorem dt_X6_better (s2 : Bd) (x1 : Int32) (x2 : Int32) : dt (fun P : Int32 → Prop => wp_X6_better (fun a0 => P a0) s2 x1 x2) (fun P : Int32 → Prop => wp_X6_better (fun a0 => P a0) s2 x1 x2) := by
  unfold wp_X6_better
  exact (dt_b1 (F := fun k => wp_X0_hasDrum k s2 x1) (dt_X0_hasDrum s2 x1) (fun r_1 => (dt_p (dt_r _) (dt_p (dt_r _) (dt_p (dt_b1 (F := fun k => wp_X0_flapsOn k s2 x1) (dt_X0_flapsOn s2 x1) (fun r_6 => (dt_x (fun n43 m_n43 => (dl_X6_better_L43 s2 (fun v0 => (dt_r _)) (fun z1 z2 z3 z4 z5 z6 z7 => (dt_n (dt_n (dt_n (dt_r _) (dt_r _)) (dt_b1 (F := fun k => wp_X0_journey k s2 z1) (dt_X0_journey s2 z1) (fun r_16 => (dt_r _)))) (dt_r _))) n43 m_n43 x1 x2 r_6 0 (-1) (-1) 1))))) (dt_r _))))))
set_option maxHeartbeats 4000000 in
theorem dl_X6_farthest_L30 (s2 : Bd) {O : Type} {G_post G2_post : Int32 → (O → Prop) → Prop} {G_e101 G2_e101 : Int32 → Int32 → Int32 → Int32 → Int32 → (O → Prop) → Prop} (h_post : ∀ v0, dt (G_post v0) (G2_post v0)) (h_e101 : ∀ v0 v1 v2 v3 v4, dt (G_e101 v0 v1 v2 v3 v4) (G2_e101 v0 v1 v2 v3 v4)) : ∀ (n m : Nat) (z1 : Int32) (z2 : Int32) (z3 : Int32) (z4 : Int32) (z5 : Int32), dt (fun P : O → Prop => wp_X6_farthest_L30 s2 (fun v0 => G_post v0 P) (fun v0 v1 v2 v3 v4 => G_e101 v0 v1 v2 v3 v4 P) n z1 z2 z3 z4 z5) (fun P : O → Prop => wp_X6_farthest_L30 s2 (fun v0 => G2_post v0 P) (fun v0 v1 v2 v3 v4 => G2_e101 v0 v1 v2 v3 v4 P) m z1 z2 z3 z4 z5) := by
  intro n
  induction n with
  | zero => exact fun _ _ _ _ _ _ => dt_F
  | succ n30 ih =>
    intro m z1 z2 z3 z4 z5
    have key : ∀ m9 : Nat, dt (fun P : O → Prop => wp_X6_farthest_L30 s2 (fun v0 => G_post v0 P) (fun v0 v1 v2 v3 v4 => G_e101 v0 v1 v2 v3 v4 P) (n30 + 1) z1 z2 z3 z4 z5) (fun P : O → Prop => wp_X6_farthest_L30 s2 (fun v0 => G2_post v0 P) (fun v0 v1 v2 v3 v4 => G2_e101 v0 v1 v2 v3 v4 P) (m9 + 1) z1 z2 z3 z4 z5) := by
      intro m9
      unfold wp_X6_farthest_L30
      exact (dt_b1 (F := fun k => wp_X0_flapsOf k s2 z1) (dt_X0_flapsOf s2 z1) (fun r_6 => (dt_p (h_e101 z1 z2 z3 z4 z5) (dt_b1 (F := fun k => wp_X0_flapsOnTo k s2 z1 z5) (dt_X0_flapsOnTo s2 z1 z5) (fun r_9 => (dt_b1 (F := fun k => wp_X0_signOn k s2 z1 z5) (dt_X0_signOn s2 z1 z5) (fun r_11 => (dt_p (ih m9 z1 z2 z3 z4 (z5 + 1)) (dt_b1 (F := fun k => wp_X0_nearest k s2 z1 r_11) (dt_X0_nearest s2 z1 r_11) (fun r_14 => (dt_n (ih m9 z1 z2 z3 z4 (z5 + 1)) (ih m9 z1 z2 r_9 r_11 (z5 + 1)))))))))))))
    cases m with
    | zero => exact dt_0 (key 0)
    | succ m9 => exact key m9
set_option maxHeartbeats 4000000 in
theorem dt_X6_farthest (s2 : Bd) (x1 : Int32) (x2 : Int32) : dt (fun P : Int32 → Prop => wp_X6_farthest (fun a0 => P a0) s2 x1 x2) (fun P : Int32 → Prop => wp_X6_farthest (fun a0 => P a0) s2 x1 x2) := by
  unfold wp_X6_farthest
  exact (dt_b1 (F := fun k => wp_X0_hasCell k s2 x1) (dt_X0_hasCell s2 x1) (fun r_1 => (dt_p (dt_r _) (dt_p (dt_r _) (dt_p (dt_x (fun n30 m_n30 => (dl_X6_farthest_L30 s2 (fun v0 => (dt_r _)) (fun z1 z2 z3 z4 z5 => (dt_n (dt_r _) (dt_r _))) n30 m_n30 x1 x2 (-1) (-1) 0))) (dt_r _))))))
set_option maxHeartbeats 4000000 in
theorem dt_X6_lacks (s2 : Bd) (x1 : Int32) (x2 : Int32) : dt (fun P : Int32 → Prop => wp_X6_lacks (fun a0 => P a0) s2 x1 x2) (fun P : Int32 → Prop => wp_X6_lacks (fun a0 => P a0) s2 x1 x2) := by
  unfold wp_X6_lacks
  exact (dt_b1 (F := fun k => wp_X0_hasCell k s2 x1) (dt_X0_hasCell s2 x1) (fun r_1 => (dt_p (dt_r _) (dt_p (dt_r _) (dt_p (dt_n (dt_c (dt_b1 (F := fun k => wp_X0_signsOfOthers k s2 ((s2.2.1 3) (Int32.toNatClampNeg x1))) (dt_X0_signsOfOthers s2 ((s2.2.1 3) (Int32.toNatClampNeg x1))) (fun r_8 => (dt_r _)))) (dt_b1 (F := fun k => wp_X0_missedOfOwn k s2 x1) (dt_X0_missedOfOwn s2 x1) (fun r_10 => (dt_r _)))) (dt_r _))))))
set_option maxHeartbeats 4000000 in
theorem dl_X6_unlike_L34 (s2 : Bd) {O : Type} {G_post G2_post : Int32 → (O → Prop) → Prop} {G_e104 G2_e104 : Int32 → Int32 → Int32 → Int32 → (O → Prop) → Prop} (h_post : ∀ v0, dt (G_post v0) (G2_post v0)) (h_e104 : ∀ v0 v1 v2 v3, dt (G_e104 v0 v1 v2 v3) (G2_e104 v0 v1 v2 v3)) : ∀ (n m : Nat) (z1 : Int32) (z2 : Int32) (z3 : Int32) (z4 : Int32), dt (fun P : O → Prop => wp_X6_unlike_L34 s2 (fun v0 => G_post v0 P) (fun v0 v1 v2 v3 => G_e104 v0 v1 v2 v3 P) n z1 z2 z3 z4) (fun P : O → Prop => wp_X6_unlike_L34 s2 (fun v0 => G2_post v0 P) (fun v0 v1 v2 v3 => G2_e104 v0 v1 v2 v3 P) m z1 z2 z3 z4) := by
  intro n
  induction n with
  | zero => exact fun _ _ _ _ _ => dt_F
  | succ n34 ih =>
    intro m z1 z2 z3 z4
    have key : ∀ m9 : Nat, dt (fun P : O → Prop => wp_X6_unlike_L34 s2 (fun v0 => G_post v0 P) (fun v0 v1 v2 v3 => G_e104 v0 v1 v2 v3 P) (n34 + 1) z1 z2 z3 z4) (fun P : O → Prop => wp_X6_unlike_L34 s2 (fun v0 => G2_post v0 P) (fun v0 v1 v2 v3 => G2_e104 v0 v1 v2 v3 P) (m9 + 1) z1 z2 z3 z4) := by
      intro m9
      unfold wp_X6_unlike_L34
      exact (dt_p (h_e104 z1 z2 z3 z4) (dt_b1 (F := fun k => wp_X0_wantedSign k s2 ((z1 * (s2.1 1)) + z4)) (dt_X0_wantedSign s2 ((z1 * (s2.1 1)) + z4)) (fun r_9 => (dt_b1 (F := fun k => wp_X0_wantedSign k s2 ((z2 * (s2.1 1)) + z4)) (dt_X0_wantedSign s2 ((z2 * (s2.1 1)) + z4)) (fun r_11 => (dt_p (ih m9 z1 z2 z3 (z4 + 1)) (ih m9 z1 z2 (z3 + 1) (z4 + 1))))))))
    cases m with
    | zero => exact dt_0 (key 0)
    | succ m9 => exact key m9
set_option maxHeartbeats 4000000 in
theorem dt_X6_unlike (s2 : Bd) (x1 : Int32) (x2 : Int32) : dt (fun P : Int32 → Prop => wp_X6_unlike (fun a0 => P a0) s2 x1 x2) (fun P : Int32 → Prop => wp_X6_unlike (fun a0 => P a0) s2 x1 x2) := by
  unfold wp_X6_unlike
  exact (dt_b1 (F := fun k => wp_X0_hasRow k s2 x1) (dt_X0_hasRow s2 x1) (fun r_1 => (dt_p (dt_r _) (dt_b1 (F := fun k => wp_X0_hasRow k s2 x2) (dt_X0_hasRow s2 x2) (fun r_4 => (dt_p (dt_r _) (dt_n (dt_x (fun n34 m_n34 => (dl_X6_unlike_L34 s2 (fun v0 => (dt_r _)) (fun z1 z2 z3 z4 => (dt_r _)) n34 m_n34 x1 x2 0 0))) (dt_r _))))))))
set_option maxHeartbeats 4000000 in
theorem dt_X6_letter (s2 : Bd) (x1 : Int32) (x2 : Int32) : dt (fun P : Int32 → Prop => wp_X6_letter (fun a0 => P a0) s2 x1 x2) (fun P : Int32 → Prop => wp_X6_letter (fun a0 => P a0) s2 x1 x2) := by
  unfold wp_X6_letter
  exact (dt_p (dt_r _) (dt_p (dt_r _) (dt_p (dt_b1 (F := fun k => wp_X0_isThere k s2) (dt_X0_isThere s2) (fun r_4 => (dt_p (dt_n (dt_p (dt_c (dt_n (dt_c (dt_n (dt_c (dt_b1 (F := fun k => wp_X0_signOn k s2 (((x2 / ((s2.1 1) + 1)) * (s2.1 1)) + (x2 - ((x2 / ((s2.1 1) + 1)) * ((s2.1 1) + 1)))) ((s2.2.1 6) (Int32.toNatClampNeg (((x2 / ((s2.1 1) + 1)) * (s2.1 1)) + (x2 - ((x2 / ((s2.1 1) + 1)) * ((s2.1 1) + 1))))))) (dt_X0_signOn s2 (((x2 / ((s2.1 1) + 1)) * (s2.1 1)) + (x2 - ((x2 / ((s2.1 1) + 1)) * ((s2.1 1) + 1)))) ((s2.2.1 6) (Int32.toNatClampNeg (((x2 / ((s2.1 1) + 1)) * (s2.1 1)) + (x2 - ((x2 / ((s2.1 1) + 1)) * ((s2.1 1) + 1))))))) (fun r_14 => (dt_r _)))) (dt_c (dt_b1 (F := fun k => wp_X0_signOn k s2 (((x2 / ((s2.1 1) + 1)) * (s2.1 1)) + (x2 - ((x2 / ((s2.1 1) + 1)) * ((s2.1 1) + 1)))) ((s2.2.1 4) (Int32.toNatClampNeg (((x2 / ((s2.1 1) + 1)) * (s2.1 1)) + (x2 - ((x2 / ((s2.1 1) + 1)) * ((s2.1 1) + 1))))))) (dt_X0_signOn s2 (((x2 / ((s2.1 1) + 1)) * (s2.1 1)) + (x2 - ((x2 / ((s2.1 1) + 1)) * ((s2.1 1) + 1)))) ((s2.2.1 4) (Int32.toNatClampNeg (((x2 / ((s2.1 1) + 1)) * (s2.1 1)) + (x2 - ((x2 / ((s2.1 1) + 1)) * ((s2.1 1) + 1))))))) (fun r_17 => (dt_r _)))))) (dt_r _))) (dt_r _)) (dt_r _)) (dt_b1 (F := fun k => wp_X0_cells k s2) (dt_X0_cells s2) (fun r_19 => (dt_n (dt_p (dt_c (dt_n (dt_c (dt_n (dt_c (dt_b1 (F := fun k => wp_X0_signOn k s2 (((x2 / ((s2.1 1) + 1)) * (s2.1 1)) + (x2 - ((x2 / ((s2.1 1) + 1)) * ((s2.1 1) + 1)))) ((s2.2.1 6) (Int32.toNatClampNeg (((x2 / ((s2.1 1) + 1)) * (s2.1 1)) + (x2 - ((x2 / ((s2.1 1) + 1)) * ((s2.1 1) + 1))))))) (dt_X0_signOn s2 (((x2 / ((s2.1 1) + 1)) * (s2.1 1)) + (x2 - ((x2 / ((s2.1 1) + 1)) * ((s2.1 1) + 1)))) ((s2.2.1 6) (Int32.toNatClampNeg (((x2 / ((s2.1 1) + 1)) * (s2.1 1)) + (x2 - ((x2 / ((s2.1 1) + 1)) * ((s2.1 1) + 1))))))) (fun r_28 => (dt_r _)))) (dt_c (dt_b1 (F := fun k => wp_X0_signOn k s2 (((x2 / ((s2.1 1) + 1)) * (s2.1 1)) + (x2 - ((x2 / ((s2.1 1) + 1)) * ((s2.1 1) + 1)))) ((s2.2.1 4) (Int32.toNatClampNeg (((x2 / ((s2.1 1) + 1)) * (s2.1 1)) + (x2 - ((x2 / ((s2.1 1) + 1)) * ((s2.1 1) + 1))))))) (dt_X0_signOn s2 (((x2 / ((s2.1 1) + 1)) * (s2.1 1)) + (x2 - ((x2 / ((s2.1 1) + 1)) * ((s2.1 1) + 1)))) ((s2.2.1 4) (Int32.toNatClampNeg (((x2 / ((s2.1 1) + 1)) * (s2.1 1)) + (x2 - ((x2 / ((s2.1 1) + 1)) * ((s2.1 1) + 1))))))) (fun r_31 => (dt_r _)))))) (dt_r _))) (dt_r _)) (dt_r _))))))) (dt_r _))))
set_option maxHeartbeats 4000000 in
theorem dl_X6_digest_L6 (s2 : Bd) {O : Type} {G_post G2_post : Int64 → (O → Prop) → Prop} {G_e124 G2_e124 : Int64 → Int32 → (O → Prop) → Prop} (h_post : ∀ v0, dt (G_post v0) (G2_post v0)) (h_e124 : ∀ v0 v1, dt (G_e124 v0 v1) (G2_e124 v0 v1)) : ∀ (n m : Nat) (w1 : Int64) (z3 : Int32), dt (fun P : O → Prop => wp_X6_digest_L6 s2 (fun v0 => G_post v0 P) (fun v0 v1 => G_e124 v0 v1 P) n w1 z3) (fun P : O → Prop => wp_X6_digest_L6 s2 (fun v0 => G2_post v0 P) (fun v0 v1 => G2_e124 v0 v1 P) m w1 z3) := by
  intro n
  induction n with
  | zero => exact fun _ _ _ => dt_F
  | succ n6 ih =>
    intro m w1 z3
    have key : ∀ m9 : Nat, dt (fun P : O → Prop => wp_X6_digest_L6 s2 (fun v0 => G_post v0 P) (fun v0 v1 => G_e124 v0 v1 P) (n6 + 1) w1 z3) (fun P : O → Prop => wp_X6_digest_L6 s2 (fun v0 => G2_post v0 P) (fun v0 v1 => G2_e124 v0 v1 P) (m9 + 1) w1 z3) := by
      intro m9
      unfold wp_X6_digest_L6
      exact (dt_b1 (F := fun k => wp_X0_cells k s2) (dt_X0_cells s2) (fun r_1 => (dt_p (h_e124 w1 z3) (dt_c (dt_c (dt_c (dt_c (dt_c (dt_c (ih m9 ((31 * ((31 * ((31 * ((31 * ((31 * ((31 * w1) + (Int32.toInt64 ((s2.2.1 3) (Int32.toNatClampNeg z3))))) + (Int32.toInt64 ((s2.2.1 4) (Int32.toNatClampNeg z3))))) + (Int32.toInt64 ((s2.2.1 5) (Int32.toNatClampNeg z3))))) + (Int32.toInt64 ((s2.2.1 6) (Int32.toNatClampNeg z3))))) + (Int32.toInt64 ((s2.2.1 7) (Int32.toNatClampNeg z3))))) + (s2.2.2.1 (Int32.toNatClampNeg z3))) (z3 + 1)))))))))))
    cases m with
    | zero => exact dt_0 (key 0)
    | succ m9 => exact key m9
set_option maxHeartbeats 4000000 in
theorem dt_X6_digest (s2 : Bd) : dt (fun P : Int64 → Prop => wp_X6_digest (fun a0 => P a0) s2) (fun P : Int64 → Prop => wp_X6_digest (fun a0 => P a0) s2) := by
  unfold wp_X6_digest
  exact (dt_x (fun n6 m_n6 => (dl_X6_digest_L6 s2 (fun v0 => (dt_r _)) (fun w1 z3 => (dt_r _)) n6 m_n6 17 0)))
set_option maxHeartbeats 4000000 in
theorem dt_X7_in (y0 : Int64) (y2 : Int64) (y4 : Int64) : dt (fun P : Int32 → Prop => wp_X7_in (fun a0 => P a0) y0 y2 y4) (fun P : Int32 → Prop => wp_X7_in (fun a0 => P a0) y0 y2 y4) := by
  unfold wp_X7_in
  exact (dt_p (dt_r _) (dt_p (dt_r _) (dt_r _)))
set_option maxHeartbeats 4000000 in
theorem dt_X7_isIn (y0 : Int64) (x2 : Int32) : dt (fun P : Int32 → Prop => wp_X7_isIn (fun a0 => P a0) y0 x2) (fun P : Int32 → Prop => wp_X7_isIn (fun a0 => P a0) y0 x2) := by
  unfold wp_X7_isIn
  exact (dt_n (dt_r _) (dt_r _))
set_option maxHeartbeats 4000000 in
theorem dt_X7_isSign (x0 : Int32) : dt (fun P : Int32 → Prop => wp_X7_isSign (fun a0 => P a0) x0) (fun P : Int32 → Prop => wp_X7_isSign (fun a0 => P a0) x0) := by
  unfold wp_X7_isSign
  exact (dt_b1 (F := fun k => wp_X7_in k (Int32.toInt64 x0) (32 : Int64) (126 : Int64)) (dt_X7_in (Int32.toInt64 x0) (32 : Int64) (126 : Int64)) (fun r_1 => (dt_p (dt_r _) (dt_p (dt_r _) (dt_r _)))))
set_option maxHeartbeats 4000000 in
theorem dt_X7_rows (s0 : Md) : dt (fun P : Int32 → Prop => wp_X7_rows (fun a0 => P a0) s0) (fun P : Int32 → Prop => wp_X7_rows (fun a0 => P a0) s0) := by
  unfold wp_X7_rows
  exact (dt_r _)
set_option maxHeartbeats 4000000 in
theorem dt_X7_wide (s0 : Md) : dt (fun P : Int32 → Prop => wp_X7_wide (fun a0 => P a0) s0) (fun P : Int32 → Prop => wp_X7_wide (fun a0 => P a0) s0) := by
  unfold wp_X7_wide
  exact (dt_r _)
set_option maxHeartbeats 4000000 in
theorem dt_X7_cells (s0 : Md) : dt (fun P : Int32 → Prop => wp_X7_cells (fun a0 => P a0) s0) (fun P : Int32 → Prop => wp_X7_cells (fun a0 => P a0) s0) := by
  unfold wp_X7_cells
  exact (dt_b1 (F := fun k => wp_X7_rows k s0) (dt_X7_rows s0) (fun r_1 => (dt_b1 (F := fun k => wp_X7_wide k s0) (dt_X7_wide s0) (fun r_3 => (dt_r _)))))
set_option maxHeartbeats 4000000 in
theorem dt_X7_drums (s0 : Md) : dt (fun P : Int32 → Prop => wp_X7_drums (fun a0 => P a0) s0) (fun P : Int32 → Prop => wp_X7_drums (fun a0 => P a0) s0) := by
  unfold wp_X7_drums
  exact (dt_r _)
set_option maxHeartbeats 4000000 in
theorem dt_X7_isBoard (s0 : Md) : dt (fun P : Int32 → Prop => wp_X7_isBoard (fun a0 => P a0) s0) (fun P : Int32 → Prop => wp_X7_isBoard (fun a0 => P a0) s0) := by
  unfold wp_X7_isBoard
  exact (dt_b1 (F := fun k => wp_X7_drums k s0) (dt_X7_drums s0) (fun r_1 => (dt_p (dt_r _) (dt_r _))))
set_option maxHeartbeats 4000000 in
theorem dt_X7_isCell (s0 : Md) (x1 : Int32) : dt (fun P : Int32 → Prop => wp_X7_isCell (fun a0 => P a0) s0 x1) (fun P : Int32 → Prop => wp_X7_isCell (fun a0 => P a0) s0 x1) := by
  unfold wp_X7_isCell
  exact (dt_b1 (F := fun k => wp_X7_cells k s0) (dt_X7_cells s0) (fun r_1 => (dt_b1 (F := fun k => wp_X7_in k (Int32.toInt64 x1) (0 : Int64) (Int32.toInt64 (r_1 - 1))) (dt_X7_in (Int32.toInt64 x1) (0 : Int64) (Int32.toInt64 (r_1 - 1))) (fun r_3 => (dt_c (dt_r _))))))
set_option maxHeartbeats 4000000 in
theorem dt_X7_isRow (s0 : Md) (x1 : Int32) : dt (fun P : Int32 → Prop => wp_X7_isRow (fun a0 => P a0) s0 x1) (fun P : Int32 → Prop => wp_X7_isRow (fun a0 => P a0) s0 x1) := by
  unfold wp_X7_isRow
  exact (dt_b1 (F := fun k => wp_X7_rows k s0) (dt_X7_rows s0) (fun r_1 => (dt_b1 (F := fun k => wp_X7_in k (Int32.toInt64 x1) (0 : Int64) (Int32.toInt64 (r_1 - 1))) (dt_X7_in (Int32.toInt64 x1) (0 : Int64) (Int32.toInt64 (r_1 - 1))) (fun r_3 => (dt_c (dt_r _))))))
set_option maxHeartbeats 4000000 in
theorem dt_X7_isDrum (s0 : Md) (x1 : Int32) : dt (fun P : Int32 → Prop => wp_X7_isDrum (fun a0 => P a0) s0 x1) (fun P : Int32 → Prop => wp_X7_isDrum (fun a0 => P a0) s0 x1) := by
  unfold wp_X7_isDrum
  exact (dt_b1 (F := fun k => wp_X7_drums k s0) (dt_X7_drums s0) (fun r_1 => (dt_b1 (F := fun k => wp_X7_in k (Int32.toInt64 x1) (0 : Int64) (Int32.toInt64 (r_1 - 1))) (dt_X7_in (Int32.toInt64 x1) (0 : Int64) (Int32.toInt64 (r_1 - 1))) (fun r_3 => (dt_c (dt_r _))))))
set_option maxHeartbeats 4000000 in
theorem dt_X7_of (s0 : Md) (x1 : Int32) (x2 : Int32) : dt (fun P : Int32 → Prop => wp_X7_of (fun a0 => P a0) s0 x1 x2) (fun P : Int32 → Prop => wp_X7_of (fun a0 => P a0) s0 x1 x2) := by
  unfold wp_X7_of
  exact (dt_c (dt_r _))
set_option maxHeartbeats 4000000 in
theorem dt_X7_sets (s0 : Md) (x1 : Int32) (x2 : Int32) (y3 : Int64) : dt (fun P : Md → Prop => wp_X7_sets (fun a0 => P a0) s0 x1 x2 y3) (fun P : Md → Prop => wp_X7_sets (fun a0 => P a0) s0 x1 x2 y3) := by
  unfold wp_X7_sets
  exact (dt_c (dt_r _))
set_option maxHeartbeats 4000000 in
theorem dt_X7_wornOf (s0 : Md) (x1 : Int32) : dt (fun P : Int64 → Prop => wp_X7_wornOf (fun a0 => P a0) s0 x1) (fun P : Int64 → Prop => wp_X7_wornOf (fun a0 => P a0) s0 x1) := by
  unfold wp_X7_wornOf
  exact (dt_c (dt_r _))
set_option maxHeartbeats 4000000 in
theorem dt_X7_currentOf (s0 : Md) (x1 : Int32) : dt (fun P : Int32 → Prop => wp_X7_currentOf (fun a0 => P a0) s0 x1) (fun P : Int32 → Prop => wp_X7_currentOf (fun a0 => P a0) s0 x1) := by
  unfold wp_X7_currentOf
  exact (dt_c (dt_r _))
set_option maxHeartbeats 4000000 in
theorem dt_X7_flapsOf (s0 : Md) (x1 : Int32) : dt (fun P : Int32 → Prop => wp_X7_flapsOf (fun a0 => P a0) s0 x1) (fun P : Int32 → Prop => wp_X7_flapsOf (fun a0 => P a0) s0 x1) := by
  unfold wp_X7_flapsOf
  exact (dt_c (dt_r _))
set_option maxHeartbeats 4000000 in
theorem dt_X7_signOf (s0 : Md) (x1 : Int32) (x2 : Int32) : dt (fun P : Int32 → Prop => wp_X7_signOf (fun a0 => P a0) s0 x1 x2) (fun P : Int32 → Prop => wp_X7_signOf (fun a0 => P a0) s0 x1 x2) := by
  unfold wp_X7_signOf
  exact (dt_c (dt_r _))
set_option maxHeartbeats 4000000 in
theorem dt_X7_flaps (s0 : Md) (x1 : Int32) : dt (fun P : Int32 → Prop => wp_X7_flaps (fun a0 => P a0) s0 x1) (fun P : Int32 → Prop => wp_X7_flaps (fun a0 => P a0) s0 x1) := by
  unfold wp_X7_flaps
  exact (dt_b1 (F := fun k => wp_X7_of k s0 x1 (0 : Int32)) (dt_X7_of s0 x1 (0 : Int32)) (fun r_1 => (dt_b1 (F := fun k => wp_X7_flapsOf k s0 r_1) (dt_X7_flapsOf s0 r_1) (fun r_3 => (dt_r _)))))
set_option maxHeartbeats 4000000 in
theorem dt_X7_current (s0 : Md) (x1 : Int32) : dt (fun P : Int32 → Prop => wp_X7_current (fun a0 => P a0) s0 x1) (fun P : Int32 → Prop => wp_X7_current (fun a0 => P a0) s0 x1) := by
  unfold wp_X7_current
  exact (dt_b1 (F := fun k => wp_X7_of k s0 x1 (0 : Int32)) (dt_X7_of s0 x1 (0 : Int32)) (fun r_1 => (dt_b1 (F := fun k => wp_X7_currentOf k s0 r_1) (dt_X7_currentOf s0 r_1) (fun r_3 => (dt_r _)))))
set_option maxHeartbeats 4000000 in
theorem dt_X7_on (x0 : Int32) (x1 : Int32) (x2 : Int32) : dt (fun P : Int32 → Prop => wp_X7_on (fun a0 => P a0) x0 x1 x2) (fun P : Int32 → Prop => wp_X7_on (fun a0 => P a0) x0 x1 x2) := by
  unfold wp_X7_on
  exact (dt_c (dt_r _))
set_option maxHeartbeats 4000000 in
theorem dt_X7_leftOf (s0 : Md) (x1 : Int32) : dt (fun P : Int32 → Prop => wp_X7_leftOf (fun a0 => P a0) s0 x1) (fun P : Int32 → Prop => wp_X7_leftOf (fun a0 => P a0) s0 x1) := by
  unfold wp_X7_leftOf
  exact (dt_b1 (F := fun k => wp_X7_of k s0 x1 (2 : Int32)) (dt_X7_of s0 x1 (2 : Int32)) (fun r_1 => (dt_b1 (F := fun k => wp_X7_of k s0 x1 (3 : Int32)) (dt_X7_of s0 x1 (3 : Int32)) (fun r_3 => (dt_b1 (F := fun k => wp_X7_flaps k s0 x1) (dt_X7_flaps s0 x1) (fun r_5 => (dt_b1 (F := fun k => wp_X7_on k r_1 r_3 r_5) (dt_X7_on r_1 r_3 r_5) (fun r_7 => (dt_r _)))))))))
set_option maxHeartbeats 4000000 in
theorem dl_X7_bits_L4  {O : Type} {G_post G2_post : Int32 → (O → Prop) → Prop} {G_e32 G2_e32 : Int64 → Int32 → Int32 → (O → Prop) → Prop} (h_post : ∀ v0, dt (G_post v0) (G2_post v0)) (h_e32 : ∀ v0 v1 v2, dt (G_e32 v0 v1 v2) (G2_e32 v0 v1 v2)) : ∀ (n m : Nat) (w0 : Int64) (z2 : Int32) (z3 : Int32), dt (fun P : O → Prop => wp_X7_bits_L4 (fun v0 => G_post v0 P) (fun v0 v1 v2 => G_e32 v0 v1 v2 P) n w0 z2 z3) (fun P : O → Prop => wp_X7_bits_L4 (fun v0 => G2_post v0 P) (fun v0 v1 v2 => G2_e32 v0 v1 v2 P) m w0 z2 z3) := by
  intro n
  induction n with
  | zero => exact fun _ _ _ _ => dt_F
  | succ n4 ih =>
    intro m w0 z2 z3
    have key : ∀ m9 : Nat, dt (fun P : O → Prop => wp_X7_bits_L4 (fun v0 => G_post v0 P) (fun v0 v1 v2 => G_e32 v0 v1 v2 P) (n4 + 1) w0 z2 z3) (fun P : O → Prop => wp_X7_bits_L4 (fun v0 => G2_post v0 P) (fun v0 v1 v2 => G2_e32 v0 v1 v2 P) (m9 + 1) w0 z2 z3) := by
      intro m9
      unfold wp_X7_bits_L4
      exact (dt_p (h_e32 w0 z2 z3) (dt_b1 (F := fun k => wp_X7_isIn k w0 z3) (dt_X7_isIn w0 z3) (fun r_2 => (dt_p (ih m9 w0 (z2 + 0) (z3 + 1)) (ih m9 w0 (z2 + 1) (z3 + 1))))))
    cases m with
    | zero => exact dt_0 (key 0)
    | succ m9 => exact key m9
set_option maxHeartbeats 4000000 in
theorem dt_X7_bits (y0 : Int64) : dt (fun P : Int32 → Prop => wp_X7_bits (fun a0 => P a0) y0) (fun P : Int32 → Prop => wp_X7_bits (fun a0 => P a0) y0) := by
  unfold wp_X7_bits
  exact (dt_x (fun n4 m_n4 => (dl_X7_bits_L4  (fun v0 => (dt_r _)) (fun w0 z2 z3 => (dt_r _)) n4 m_n4 y0 0 0)))
set_option maxHeartbeats 4000000 in
theorem dt_X7_steps (s0 : Md) (x1 : Int32) : dt (fun P : Md → Prop => wp_X7_steps (fun a0 => P a0) s0 x1) (fun P : Md → Prop => wp_X7_steps (fun a0 => P a0) s0 x1) := by
  unfold wp_X7_steps
  exact (dt_b1 (F := fun k => wp_X7_of k s0 x1 (2 : Int32)) (dt_X7_of s0 x1 (2 : Int32)) (fun r_1 => (dt_b1 (F := fun k => wp_X7_flaps k s0 x1) (dt_X7_flaps s0 x1) (fun r_3 => (dt_c (dt_b1 (F := fun k => wp_X7_sets k s0 x1 (2 : Int32) (Int32.toInt64 ((r_1 + 1) - (((r_1 + 1) / r_3) * r_3)))) (dt_X7_sets s0 x1 (2 : Int32) (Int32.toInt64 ((r_1 + 1) - (((r_1 + 1) / r_3) * r_3)))) (fun u_7 => (dt_b1 (F := fun k => wp_X7_of k u_7 x1 (5 : Int32)) (dt_X7_of u_7 x1 (5 : Int32)) (fun r_8 => (dt_b1 (F := fun k => wp_X7_sets k u_7 x1 (5 : Int32) (Int32.toInt64 (r_8 + 1))) (dt_X7_sets u_7 x1 (5 : Int32) (Int32.toInt64 (r_8 + 1))) (fun u_11 => (dt_b1 (F := fun k => wp_X7_of k (u_11.1, u_11.2.1, (va_up u_11.2.2.1 0 (vp_updL (u_11.2.2.1 0) (Int32.toNatClampNeg 6) (((u_11.2.2.1 0) (Int32.toNatClampNeg 6)) + 1))), u_11.2.2.2) x1 (4 : Int32)) (dt_X7_of (u_11.1, u_11.2.1, (va_up u_11.2.2.1 0 (vp_updL (u_11.2.2.1 0) (Int32.toNatClampNeg 6) (((u_11.2.2.1 0) (Int32.toNatClampNeg 6)) + 1))), u_11.2.2.2) x1 (4 : Int32)) (fun r_12 => (dt_p (dt_b1 (F := fun k => wp_X7_of k (u_11.1, u_11.2.1, (va_up u_11.2.2.1 0 (vp_updL (u_11.2.2.1 0) (Int32.toNatClampNeg 6) (((u_11.2.2.1 0) (Int32.toNatClampNeg 6)) + 1))), u_11.2.2.2) x1 (1 : Int32)) (dt_X7_of (u_11.1, u_11.2.1, (va_up u_11.2.2.1 0 (vp_updL (u_11.2.2.1 0) (Int32.toNatClampNeg 6) (((u_11.2.2.1 0) (Int32.toNatClampNeg 6)) + 1))), u_11.2.2.2) x1 (1 : Int32)) (fun r_15 => (dt_b1 (F := fun k => wp_X7_flaps k (u_11.1, u_11.2.1, (va_up u_11.2.2.1 0 (vp_updL (u_11.2.2.1 0) (Int32.toNatClampNeg 6) (((u_11.2.2.1 0) (Int32.toNatClampNeg 6)) + 1))), u_11.2.2.2) x1) (dt_X7_flaps (u_11.1, u_11.2.1, (va_up u_11.2.2.1 0 (vp_updL (u_11.2.2.1 0) (Int32.toNatClampNeg 6) (((u_11.2.2.1 0) (Int32.toNatClampNeg 6)) + 1))), u_11.2.2.2) x1) (fun r_17 => (dt_c (dt_b1 (F := fun k => wp_X7_sets k (u_11.1, u_11.2.1, (va_up u_11.2.2.1 0 (vp_updL (u_11.2.2.1 0) (Int32.toNatClampNeg 6) (((u_11.2.2.1 0) (Int32.toNatClampNeg 6)) + 1))), u_11.2.2.2) x1 (1 : Int32) (Int32.toInt64 ((r_15 + 1) - (((r_15 + 1) / r_17) * r_17)))) (dt_X7_sets (u_11.1, u_11.2.1, (va_up u_11.2.2.1 0 (vp_updL (u_11.2.2.1 0) (Int32.toNatClampNeg 6) (((u_11.2.2.1 0) (Int32.toNatClampNeg 6)) + 1))), u_11.2.2.2) x1 (1 : Int32) (Int32.toInt64 ((r_15 + 1) - (((r_15 + 1) / r_17) * r_17)))) (fun u_21 => (dt_b1 (F := fun k => wp_X7_of k u_21 x1 (1 : Int32)) (dt_X7_of u_21 x1 (1 : Int32)) (fun r_22 => (dt_p (dt_b1 (F := fun k => wp_X7_of k u_21 x1 (6 : Int32)) (dt_X7_of u_21 x1 (6 : Int32)) (fun r_25 => (dt_b1 (F := fun k => wp_X7_sets k u_21 x1 (6 : Int32) (Int32.toInt64 (r_25 + ((r_1 + 1) - (((r_1 + 1) / r_3) * r_3))))) (dt_X7_sets u_21 x1 (6 : Int32) (Int32.toInt64 (r_25 + ((r_1 + 1) - (((r_1 + 1) / r_3) * r_3))))) (fun u_28 => (dt_b1 (F := fun k => wp_X7_sets k (u_28.1, u_28.2.1, (va_up u_28.2.2.1 0 (vp_updL (u_28.2.2.1 0) (Int32.toNatClampNeg 7) (((u_28.2.2.1 0) (Int32.toNatClampNeg 7)) + (Int32.toInt64 ((r_1 + 1) - (((r_1 + 1) / r_3) * r_3)))))), u_28.2.2.2) x1 (2 : Int32) (0 : Int64)) (dt_X7_sets (u_28.1, u_28.2.1, (va_up u_28.2.2.1 0 (vp_updL (u_28.2.2.1 0) (Int32.toNatClampNeg 7) (((u_28.2.2.1 0) (Int32.toNatClampNeg 7)) + (Int32.toInt64 ((r_1 + 1) - (((r_1 + 1) / r_3) * r_3)))))), u_28.2.2.2) x1 (2 : Int32) (0 : Int64)) (fun u_30 => (dt_r _))))))) (dt_r _))))))))))) (dt_b1 (F := fun k => wp_X7_of k (u_11.1, u_11.2.1, (va_up u_11.2.2.1 0 (vp_updL (u_11.2.2.1 0) (Int32.toNatClampNeg 6) (((u_11.2.2.1 0) (Int32.toNatClampNeg 6)) + 1))), u_11.2.2.2) x1 (4 : Int32)) (dt_X7_of (u_11.1, u_11.2.1, (va_up u_11.2.2.1 0 (vp_updL (u_11.2.2.1 0) (Int32.toNatClampNeg 6) (((u_11.2.2.1 0) (Int32.toNatClampNeg 6)) + 1))), u_11.2.2.2) x1 (4 : Int32)) (fun r_31 => (dt_b1 (F := fun k => wp_X7_sets k (u_11.1, u_11.2.1, (va_up u_11.2.2.1 0 (vp_updL (u_11.2.2.1 0) (Int32.toNatClampNeg 6) (((u_11.2.2.1 0) (Int32.toNatClampNeg 6)) + 1))), u_11.2.2.2) x1 (4 : Int32) (Int32.toInt64 (r_31 - 1))) (dt_X7_sets (u_11.1, u_11.2.1, (va_up u_11.2.2.1 0 (vp_updL (u_11.2.2.1 0) (Int32.toNatClampNeg 6) (((u_11.2.2.1 0) (Int32.toNatClampNeg 6)) + 1))), u_11.2.2.2) x1 (4 : Int32) (Int32.toInt64 (r_31 - 1))) (fun u_34 => (dt_r _)))))))))))))))))))
set_option maxHeartbeats 4000000 in
theorem dl_X7_findsTurning_L33  {O : Type} {G_post G2_post : Md → (O → Prop) → Prop} {G_e91 G2_e91 : Md → Int64 → Int32 → Int32 → Int32 → (O → Prop) → Prop} (h_post : ∀ v0, dt (G_post v0) (G2_post v0)) (h_e91 : ∀ v0 v1 v2 v3 v4, dt (G_e91 v0 v1 v2 v3 v4) (G2_e91 v0 v1 v2 v3 v4)) : ∀ (n m : Nat) (t0 : Md) (w1 : Int64) (z3 : Int32) (z4 : Int32) (z5 : Int32), dt (fun P : O → Prop => wp_X7_findsTurning_L33 (fun v0 => G_post v0 P) (fun v0 v1 v2 v3 v4 => G_e91 v0 v1 v2 v3 v4 P) n t0 w1 z3 z4 z5) (fun P : O → Prop => wp_X7_findsTurning_L33 (fun v0 => G2_post v0 P) (fun v0 v1 v2 v3 v4 => G2_e91 v0 v1 v2 v3 v4 P) m t0 w1 z3 z4 z5) := by
  intro n
  induction n with
  | zero => exact fun _ _ _ _ _ _ => dt_F
  | succ n33 ih =>
    intro m t0 w1 z3 z4 z5
    have key : ∀ m9 : Nat, dt (fun P : O → Prop => wp_X7_findsTurning_L33 (fun v0 => G_post v0 P) (fun v0 v1 v2 v3 v4 => G_e91 v0 v1 v2 v3 v4 P) (n33 + 1) t0 w1 z3 z4 z5) (fun P : O → Prop => wp_X7_findsTurning_L33 (fun v0 => G2_post v0 P) (fun v0 v1 v2 v3 v4 => G2_e91 v0 v1 v2 v3 v4 P) (m9 + 1) t0 w1 z3 z4 z5) := by
      intro m9
      unfold wp_X7_findsTurning_L33
      exact (dt_b1 (F := fun k => wp_X7_cells k t0) (dt_X7_cells t0) (fun r_4 => (dt_p (h_e91 t0 w1 z3 z4 z5) (dt_b1 (F := fun k => wp_X7_isIn k w1 z5) (dt_X7_isIn w1 z5) (fun r_7 => (dt_n (ih m9 t0 w1 z3 z4 (z5 + 1)) (dt_b1 (F := fun k => wp_X7_leftOf k t0 z5) (dt_X7_leftOf t0 z5) (fun r_10 => (dt_p (ih m9 t0 w1 z3 z4 (z5 + 1)) (dt_p (ih m9 t0 w1 z3 z5 (z5 + 1)) (dt_b1 (F := fun k => wp_X7_leftOf k t0 z5) (dt_X7_leftOf t0 z5) (fun r_14 => (dt_b1 (F := fun k => wp_X7_leftOf k t0 z4) (dt_X7_leftOf t0 z4) (fun r_16 => (dt_p (ih m9 t0 w1 z3 z4 (z5 + 1)) (ih m9 t0 w1 z3 z5 (z5 + 1)))))))))))))))))
    cases m with
    | zero => exact dt_0 (key 0)
    | succ m9 => exact key m9
set_option maxHeartbeats 4000000 in
theorem dl_X7_findsTurning_L19  {O : Type} {G_post G2_post : Md → (O → Prop) → Prop} {G_e174 G2_e174 : Md → Int64 → Int32 → (O → Prop) → Prop} (h_post : ∀ v0, dt (G_post v0) (G2_post v0)) (h_e174 : ∀ v0 v1 v2, dt (G_e174 v0 v1 v2) (G2_e174 v0 v1 v2)) : ∀ (n m : Nat) (t0 : Md) (w1 : Int64) (z3 : Int32), dt (fun P : O → Prop => wp_X7_findsTurning_L19 (fun v0 => G_post v0 P) (fun v0 v1 v2 => G_e174 v0 v1 v2 P) n t0 w1 z3) (fun P : O → Prop => wp_X7_findsTurning_L19 (fun v0 => G2_post v0 P) (fun v0 v1 v2 => G2_e174 v0 v1 v2 P) m t0 w1 z3) := by
  intro n
  induction n with
  | zero => exact fun _ _ _ _ => dt_F
  | succ n19 ih =>
    intro m t0 w1 z3
    have key : ∀ m9 : Nat, dt (fun P : O → Prop => wp_X7_findsTurning_L19 (fun v0 => G_post v0 P) (fun v0 v1 v2 => G_e174 v0 v1 v2 P) (n19 + 1) t0 w1 z3) (fun P : O → Prop => wp_X7_findsTurning_L19 (fun v0 => G2_post v0 P) (fun v0 v1 v2 => G2_e174 v0 v1 v2 P) (m9 + 1) t0 w1 z3) := by
      intro m9
      unfold wp_X7_findsTurning_L19
      exact (dt_b1 (F := fun k => wp_X7_cells k t0) (dt_X7_cells t0) (fun r_1 => (dt_p (h_e174 t0 w1 z3) (dt_x (fun n33 m_n33 => (dl_X7_findsTurning_L33  (fun v0 => (h_post v0)) (fun t0 w1 z3 z4 z5 => (dt_n (dt_b1 (F := fun k => wp_X7_current k t0 z4) (dt_X7_current t0 z4) (fun r_20 => (dt_p (dt_b1 (F := fun k => wp_X7_current k ((va_up t0.1 1 ((t0.1 1) + 1)), (t0.2.1 ||| ((1 : Int64) <<< ((Int32.toInt64 z4) &&& 63))), t0.2.2.1, t0.2.2.2) z4) (dt_X7_current ((va_up t0.1 1 ((t0.1 1) + 1)), (t0.2.1 ||| ((1 : Int64) <<< ((Int32.toInt64 z4) &&& 63))), t0.2.2.1, t0.2.2.2) z4) (fun r_23 => (ih m9 ((va_up (va_up t0.1 1 ((t0.1 1) + 1)) 2 ((t0.1 2) + r_23)), (t0.2.1 ||| ((1 : Int64) <<< ((Int32.toInt64 z4) &&& 63))), t0.2.2.1, t0.2.2.2) (w1 ||| ((1 : Int64) <<< ((Int32.toInt64 z4) &&& 63))) (z3 + 1)))) (ih m9 t0 (w1 ||| ((1 : Int64) <<< ((Int32.toInt64 z4) &&& 63))) (z3 + 1))))) (h_post t0))) n33 m_n33 t0 w1 z3 (-1) 0))))))
    cases m with
    | zero => exact dt_0 (key 0)
    | succ m9 => exact key m9
set_option maxHeartbeats 4000000 in
theorem dt_X7_findsTurning (s0 : Md) : dt (fun P : Md → Prop => wp_X7_findsTurning (fun a0 => P a0) s0) (fun P : Md → Prop => wp_X7_findsTurning (fun a0 => P a0) s0) := by
  unfold wp_X7_findsTurning
  exact (dt_x (fun n19 m_n19 => (dl_X7_findsTurning_L19  (fun v0 => (dt_r _)) (fun t0 w1 z3 => (dt_r _)) n19 m_n19 ((va_up (va_up s0.1 1 0) 2 0), 0, s0.2.2.1, s0.2.2.2) 0 0)))
set_option maxHeartbeats 4000000 in
theorem dl_X7_ticks_L6  {O : Type} {G_post G2_post : Int32 → Md → (O → Prop) → Prop} {G_e36 G2_e36 : Md → Int32 → (O → Prop) → Prop} (h_post : ∀ v0 v1, dt (G_post v0 v1) (G2_post v0 v1)) (h_e36 : ∀ v0 v1, dt (G_e36 v0 v1) (G2_e36 v0 v1)) : ∀ (n m : Nat) (t0 : Md) (z1 : Int32), dt (fun P : O → Prop => wp_X7_ticks_L6 (fun v0 v1 => G_post v0 v1 P) (fun v0 v1 => G_e36 v0 v1 P) n t0 z1) (fun P : O → Prop => wp_X7_ticks_L6 (fun v0 v1 => G2_post v0 v1 P) (fun v0 v1 => G2_e36 v0 v1 P) m t0 z1) := by
  intro n
  induction n with
  | zero => exact fun _ _ _ => dt_F
  | succ n6 ih =>
    intro m t0 z1
    have key : ∀ m9 : Nat, dt (fun P : O → Prop => wp_X7_ticks_L6 (fun v0 v1 => G_post v0 v1 P) (fun v0 v1 => G_e36 v0 v1 P) (n6 + 1) t0 z1) (fun P : O → Prop => wp_X7_ticks_L6 (fun v0 v1 => G2_post v0 v1 P) (fun v0 v1 => G2_e36 v0 v1 P) (m9 + 1) t0 z1) := by
      intro m9
      unfold wp_X7_ticks_L6
      exact (dt_b1 (F := fun k => wp_X7_cells k t0) (dt_X7_cells t0) (fun r_3 => (dt_p (h_e36 t0 z1) (dt_b1 (F := fun k => wp_X7_isIn k t0.2.1 z1) (dt_X7_isIn t0.2.1 z1) (fun r_6 => (dt_p (ih m9 t0 (z1 + 1)) (dt_b1 (F := fun k => wp_X7_steps k t0 z1) (dt_X7_steps t0 z1) (fun u_10 => (ih m9 u_10 (z1 + 1))))))))))
    cases m with
    | zero => exact dt_0 (key 0)
    | succ m9 => exact key m9
set_option maxHeartbeats 4000000 in
theorem dt_X7_ticks (s0 : Md) : dt (fun P : (Int32 × Md) → Prop => wp_X7_ticks (fun a0 a1 => P (a0, a1)) s0) (fun P : (Int32 × Md) → Prop => wp_X7_ticks (fun a0 a1 => P (a0, a1)) s0) := by
  unfold wp_X7_ticks
  exact (dt_b1 (F := fun k => wp_X7_findsTurning k s0) (dt_X7_findsTurning s0) (fun u_2 => (dt_x (fun n6 m_n6 => (dl_X7_ticks_L6  (fun v0 v1 => (dt_r _)) (fun t0 z1 => (dt_n (dt_r _) (dt_r _))) n6 m_n6 u_2 0)))))
set_option maxHeartbeats 4000000 in
theorem dl_X7_flapFor_L5 (s0 : Md) {O : Type} {G_post G2_post : Int32 → (O → Prop) → Prop} {G_e95 G2_e95 : Int32 → Int32 → Int32 → Int32 → (O → Prop) → Prop} (h_post : ∀ v0, dt (G_post v0) (G2_post v0)) (h_e95 : ∀ v0 v1 v2 v3, dt (G_e95 v0 v1 v2 v3) (G2_e95 v0 v1 v2 v3)) : ∀ (n m : Nat) (z1 : Int32) (z2 : Int32) (z3 : Int32) (z4 : Int32), dt (fun P : O → Prop => wp_X7_flapFor_L5 s0 (fun v0 => G_post v0 P) (fun v0 v1 v2 v3 => G_e95 v0 v1 v2 v3 P) n z1 z2 z3 z4) (fun P : O → Prop => wp_X7_flapFor_L5 s0 (fun v0 => G2_post v0 P) (fun v0 v1 v2 v3 => G2_e95 v0 v1 v2 v3 P) m z1 z2 z3 z4) := by
  intro n
  induction n with
  | zero => exact fun _ _ _ _ _ => dt_F
  | succ n5 ih =>
    intro m z1 z2 z3 z4
    have key : ∀ m9 : Nat, dt (fun P : O → Prop => wp_X7_flapFor_L5 s0 (fun v0 => G_post v0 P) (fun v0 v1 v2 v3 => G_e95 v0 v1 v2 v3 P) (n5 + 1) z1 z2 z3 z4) (fun P : O → Prop => wp_X7_flapFor_L5 s0 (fun v0 => G2_post v0 P) (fun v0 v1 v2 v3 => G2_e95 v0 v1 v2 v3 P) (m9 + 1) z1 z2 z3 z4) := by
      intro m9
      unfold wp_X7_flapFor_L5
      exact (dt_b1 (F := fun k => wp_X7_flaps k s0 z1) (dt_X7_flaps s0 z1) (fun r_1 => (dt_p (h_e95 z1 z2 z3 z4) (dt_b1 (F := fun k => wp_X7_of k s0 z1 (0 : Int32)) (dt_X7_of s0 z1 (0 : Int32)) (fun r_4 => (dt_b1 (F := fun k => wp_X7_signOf k s0 r_4 z4) (dt_X7_signOf s0 r_4 z4) (fun r_6 => (dt_n (ih m9 z1 z2 z3 (z4 + 1)) (dt_b1 (F := fun k => wp_X7_wornOf k s0 z1) (dt_X7_wornOf s0 z1) (fun r_9 => (dt_b1 (F := fun k => wp_X7_isIn k r_9 z4) (dt_X7_isIn r_9 z4) (fun r_11 => (dt_p (dt_p (ih m9 z1 z2 z4 (z4 + 1)) (dt_b1 (F := fun k => wp_X7_of k s0 z1 (2 : Int32)) (dt_X7_of s0 z1 (2 : Int32)) (fun r_15 => (dt_b1 (F := fun k => wp_X7_flaps k s0 z1) (dt_X7_flaps s0 z1) (fun r_17 => (dt_b1 (F := fun k => wp_X7_on k r_15 z4 r_17) (dt_X7_on r_15 z4 r_17) (fun r_19 => (dt_b1 (F := fun k => wp_X7_of k s0 z1 (2 : Int32)) (dt_X7_of s0 z1 (2 : Int32)) (fun r_21 => (dt_b1 (F := fun k => wp_X7_flaps k s0 z1) (dt_X7_flaps s0 z1) (fun r_23 => (dt_b1 (F := fun k => wp_X7_on k r_21 z3 r_23) (dt_X7_on r_21 z3 r_23) (fun r_25 => (dt_p (ih m9 z1 z2 z3 (z4 + 1)) (ih m9 z1 z2 z4 (z4 + 1)))))))))))))))) (ih m9 z1 z2 z3 (z4 + 1)))))))))))))))
    cases m with
    | zero => exact dt_0 (key 0)
    | succ m9 => exact key m9
set_option maxHeartbeats 4000000 in
theorem dt_X7_flapFor (s0 : Md) (x1 : Int32) (x2 : Int32) : dt (fun P : Int32 → Prop => wp_X7_flapFor (fun a0 => P a0) s0 x1 x2) (fun P : Int32 → Prop => wp_X7_flapFor (fun a0 => P a0) s0 x1 x2) := by
  unfold wp_X7_flapFor
  exact (dt_x (fun n5 m_n5 => (dl_X7_flapFor_L5 s0 (fun v0 => (dt_r _)) (fun z1 z2 z3 z4 => (dt_r _)) n5 m_n5 x1 x2 (-1) 0)))
set_option maxHeartbeats 4000000 in
theorem dt_X7_wantsFlap (s0 : Md) (x1 : Int32) (x2 : Int32) (x3 : Int32) : dt (fun P : Md → Prop => wp_X7_wantsFlap (fun a0 => P a0) s0 x1 x2 x3) (fun P : Md → Prop => wp_X7_wantsFlap (fun a0 => P a0) s0 x1 x2 x3) := by
  unfold wp_X7_wantsFlap
  exact (dt_b1 (F := fun k => wp_X7_sets k s0 x1 (3 : Int32) (Int32.toInt64 x2)) (dt_X7_sets s0 x1 (3 : Int32) (Int32.toInt64 x2)) (fun u_2 => (dt_p (dt_r _) (dt_b1 (F := fun k => wp_X7_of k u_2 x1 (2 : Int32)) (dt_X7_of u_2 x1 (2 : Int32)) (fun r_4 => (dt_p (dt_r _) (dt_b1 (F := fun k => wp_X7_of k u_2 x1 (0 : Int32)) (dt_X7_of u_2 x1 (0 : Int32)) (fun r_7 => (dt_b1 (F := fun k => wp_X7_of k u_2 x1 (2 : Int32)) (dt_X7_of u_2 x1 (2 : Int32)) (fun r_9 => (dt_c (dt_c (dt_r _)))))))))))))
set_option maxHeartbeats 4000000 in
theorem dl_X7_wantsSigns_L6  {O : Type} {G_post G2_post : Int32 → Md → (O → Prop) → Prop} {G_e81 G2_e81 : Md → Int32 → Int32 → Int32 → Int32 → Int32 → Int32 → (O → Prop) → Prop} (h_post : ∀ v0 v1, dt (G_post v0 v1) (G2_post v0 v1)) (h_e81 : ∀ v0 v1 v2 v3 v4 v5 v6, dt (G_e81 v0 v1 v2 v3 v4 v5 v6) (G2_e81 v0 v1 v2 v3 v4 v5 v6)) : ∀ (n m : Nat) (t0 : Md) (z1 : Int32) (z2 : Int32) (z3 : Int32) (z4 : Int32) (z5 : Int32) (z6 : Int32), dt (fun P : O → Prop => wp_X7_wantsSigns_L6 (fun v0 v1 => G_post v0 v1 P) (fun v0 v1 v2 v3 v4 v5 v6 => G_e81 v0 v1 v2 v3 v4 v5 v6 P) n t0 z1 z2 z3 z4 z5 z6) (fun P : O → Prop => wp_X7_wantsSigns_L6 (fun v0 v1 => G2_post v0 v1 P) (fun v0 v1 v2 v3 v4 v5 v6 => G2_e81 v0 v1 v2 v3 v4 v5 v6 P) m t0 z1 z2 z3 z4 z5 z6) := by
  intro n
  induction n with
  | zero => exact fun _ _ _ _ _ _ _ _ => dt_F
  | succ n6 ih =>
    intro m t0 z1 z2 z3 z4 z5 z6
    have key : ∀ m9 : Nat, dt (fun P : O → Prop => wp_X7_wantsSigns_L6 (fun v0 v1 => G_post v0 v1 P) (fun v0 v1 v2 v3 v4 v5 v6 => G_e81 v0 v1 v2 v3 v4 v5 v6 P) (n6 + 1) t0 z1 z2 z3 z4 z5 z6) (fun P : O → Prop => wp_X7_wantsSigns_L6 (fun v0 v1 => G2_post v0 v1 P) (fun v0 v1 v2 v3 v4 v5 v6 => G2_e81 v0 v1 v2 v3 v4 v5 v6 P) (m9 + 1) t0 z1 z2 z3 z4 z5 z6) := by
      intro m9
      unfold wp_X7_wantsSigns_L6
      exact (dt_b1 (F := fun k => wp_X7_wide k t0) (dt_X7_wide t0) (fun r_1 => (dt_p (h_e81 t0 z1 z2 z3 z4 z5 z6) (dt_b1 (F := fun k => wp_X7_wide k t0) (dt_X7_wide t0) (fun r_4 => (dt_p (dt_b1 (F := fun k => wp_X7_wantsFlap k t0 ((r_4 * z1) + z6) (0 : Int32) z4) (dt_X7_wantsFlap t0 ((r_4 * z1) + z6) (0 : Int32) z4) (fun u_8 => (ih m9 u_8 z1 z2 z3 z4 z5 (z6 + 1)))) (dt_c (dt_b1 (F := fun k => wp_X7_flapFor k t0 ((r_4 * z1) + z6) ((t0.2.2.2 2) (Int32.toNatClampNeg (z2 + z6)))) (dt_X7_flapFor t0 ((r_4 * z1) + z6) ((t0.2.2.2 2) (Int32.toNatClampNeg (z2 + z6)))) (fun r_10 => (dt_n (dt_b1 (F := fun k => wp_X7_wantsFlap k t0 ((r_4 * z1) + z6) r_10 z4) (dt_X7_wantsFlap t0 ((r_4 * z1) + z6) r_10 z4) (fun u_14 => (ih m9 u_14 z1 z2 z3 z4 z5 (z6 + 1)))) (ih m9 t0 z1 z2 z3 z4 (z5 + 1) (z6 + 1))))))))))))
    cases m with
    | zero => exact dt_0 (key 0)
    | succ m9 => exact key m9
set_option maxHeartbeats 4000000 in
theorem dt_X7_wantsSigns (s0 : Md) (x1 : Int32) (x2 : Int32) (x3 : Int32) (x4 : Int32) : dt (fun P : (Int32 × Md) → Prop => wp_X7_wantsSigns (fun a0 a1 => P (a0, a1)) s0 x1 x2 x3 x4) (fun P : (Int32 × Md) → Prop => wp_X7_wantsSigns (fun a0 a1 => P (a0, a1)) s0 x1 x2 x3 x4) := by
  unfold wp_X7_wantsSigns
  exact (dt_x (fun n6 m_n6 => (dl_X7_wantsSigns_L6  (fun v0 v1 => (dt_r _)) (fun t0 z1 z2 z3 z4 z5 z6 => (dt_r _)) n6 m_n6 s0 x1 x2 x3 x4 0 0)))

set_option maxHeartbeats 4000000 in
theorem dl_X7_scrolls_L5  {O : Type} {G_post G2_post : Int32 → Md → (O → Prop) → Prop} {G_e45 G2_e45 : Md → Int32 → Int32 → Int32 → Int32 → (O → Prop) → Prop} (h_post : ∀ v0 v1, dt (G_post v0 v1) (G2_post v0 v1)) (h_e45 : ∀ v0 v1 v2 v3 v4, dt (G_e45 v0 v1 v2 v3 v4) (G2_e45 v0 v1 v2 v3 v4)) : ∀ (n m : Nat) (t0 : Md) (z1 : Int32) (z2 : Int32) (z3 : Int32) (z4 : Int32), dt (fun P : O → Prop => wp_X7_scrolls_L5 (fun v0 v1 => G_post v0 v1 P) (fun v0 v1 v2 v3 v4 => G_e45 v0 v1 v2 v3 v4 P) n t0 z1 z2 z3 z4) (fun P : O → Prop => wp_X7_scrolls_L5 (fun v0 v1 => G2_post v0 v1 P) (fun v0 v1 v2 v3 v4 => G2_e45 v0 v1 v2 v3 v4 P) m t0 z1 z2 z3 z4) := by
  intro n
  induction n with
  | zero => exact fun _ _ _ _ _ _ => dt_F
  | succ n5 ih =>
    intro m t0 z1 z2 z3 z4
    have key : ∀ m9 : Nat, dt (fun P : O → Prop => wp_X7_scrolls_L5 (fun v0 v1 => G_post v0 v1 P) (fun v0 v1 v2 v3 v4 => G_e45 v0 v1 v2 v3 v4 P) (n5 + 1) t0 z1 z2 z3 z4) (fun P : O → Prop => wp_X7_scrolls_L5 (fun v0 v1 => G2_post v0 v1 P) (fun v0 v1 v2 v3 v4 => G2_e45 v0 v1 v2 v3 v4 P) (m9 + 1) t0 z1 z2 z3 z4) := by
      intro m9
      unfold wp_X7_scrolls_L5
      exact (dt_b1 (F := fun k => wp_X7_cells k t0) (dt_X7_cells t0) (fun r_1 => (dt_p (h_e45 t0 z1 z2 z3 z4) (dt_b1 (F := fun k => wp_X7_of k t0 z4 (0 : Int32)) (dt_X7_of t0 z4 (0 : Int32)) (fun r_4 => (dt_b1 (F := fun k => wp_X7_of k t0 z4 (3 : Int32)) (dt_X7_of t0 z4 (3 : Int32)) (fun r_6 => (dt_b1 (F := fun k => wp_X7_signOf k t0 r_4 r_6) (dt_X7_signOf t0 r_4 r_6) (fun r_8 => (dt_c (ih m9 (t0.1, t0.2.1, t0.2.2.1, (va_up t0.2.2.2 1 (upd (t0.2.2.2 1) (Int32.toNatClampNeg z4) r_8))) z1 z2 z3 (z4 + 1))))))))))))
    cases m with
    | zero => exact dt_0 (key 0)
    | succ m9 => exact key m9
set_option maxHeartbeats 4000000 in
theorem dl_X7_scrolls_L48  {O : Type} {G_post G2_post : Int32 → Md → (O → Prop) → Prop} {G_e109 G2_e109 : Md → Int32 → Int32 → Int32 → Int32 → (O → Prop) → Prop} (h_post : ∀ v0 v1, dt (G_post v0 v1) (G2_post v0 v1)) (h_e109 : ∀ v0 v1 v2 v3 v4, dt (G_e109 v0 v1 v2 v3 v4) (G2_e109 v0 v1 v2 v3 v4)) : ∀ (n m : Nat) (t0 : Md) (z1 : Int32) (z2 : Int32) (z3 : Int32) (z4 : Int32), dt (fun P : O → Prop => wp_X7_scrolls_L48 (fun v0 v1 => G_post v0 v1 P) (fun v0 v1 v2 v3 v4 => G_e109 v0 v1 v2 v3 v4 P) n t0 z1 z2 z3 z4) (fun P : O → Prop => wp_X7_scrolls_L48 (fun v0 v1 => G2_post v0 v1 P) (fun v0 v1 v2 v3 v4 => G2_e109 v0 v1 v2 v3 v4 P) m t0 z1 z2 z3 z4) := by
  intro n
  induction n with
  | zero => exact fun _ _ _ _ _ _ => dt_F
  | succ n48 ih =>
    intro m t0 z1 z2 z3 z4
    have key : ∀ m9 : Nat, dt (fun P : O → Prop => wp_X7_scrolls_L48 (fun v0 v1 => G_post v0 v1 P) (fun v0 v1 v2 v3 v4 => G_e109 v0 v1 v2 v3 v4 P) (n48 + 1) t0 z1 z2 z3 z4) (fun P : O → Prop => wp_X7_scrolls_L48 (fun v0 v1 => G2_post v0 v1 P) (fun v0 v1 v2 v3 v4 => G2_e109 v0 v1 v2 v3 v4 P) (m9 + 1) t0 z1 z2 z3 z4) := by
      intro m9
      unfold wp_X7_scrolls_L48
      exact (dt_b1 (F := fun k => wp_X7_wide k t0) (dt_X7_wide t0) (fun r_11 => (dt_b1 (F := fun k => wp_X7_cells k t0) (dt_X7_cells t0) (fun r_13 => (dt_p (h_e109 t0 z1 z2 z3 z4) (dt_b1 (F := fun k => wp_X7_wide k t0) (dt_X7_wide t0) (fun r_16 => (dt_c (dt_b1 (F := fun k => wp_X7_flapFor k t0 z4 ((t0.2.2.2 1) (Int32.toNatClampNeg (z4 + r_16)))) (dt_X7_flapFor t0 z4 ((t0.2.2.2 1) (Int32.toNatClampNeg (z4 + r_16)))) (fun r_19 => (dt_n (dt_b1 (F := fun k => wp_X7_wantsFlap k t0 z4 r_19 (1 : Int32)) (dt_X7_wantsFlap t0 z4 r_19 (1 : Int32)) (fun u_23 => (ih m9 u_23 z1 z2 z3 (z4 + 1)))) (ih m9 t0 z1 z2 (z3 + 1) (z4 + 1)))))))))))))
    cases m with
    | zero => exact dt_0 (key 0)
    | succ m9 => exact key m9
set_option maxHeartbeats 4000000 in
theorem dt_X7_scrolls (s0 : Md) (x1 : Int32) (x2 : Int32) : dt (fun P : (Int32 × Md) → Prop => wp_X7_scrolls (fun a0 a1 => P (a0, a1)) s0 x1 x2) (fun P : (Int32 × Md) → Prop => wp_X7_scrolls (fun a0 a1 => P (a0, a1)) s0 x1 x2) := by
  unfold wp_X7_scrolls
  exact (dt_x (fun n5 m_n5 => (dl_X7_scrolls_L5  (fun v0 v1 => (dt_r _)) (fun t0 z1 z2 z3 z4 => (dt_x (fun n48 m_n48 => (dl_X7_scrolls_L48  (fun v0 v1 => (dt_r _)) (fun t0 z1 z2 z3 z4 => (dt_b1 (F := fun k => wp_X7_rows k t0) (dt_X7_rows t0) (fun r_24 => (dt_b2 (F := fun k => wp_X7_wantsSigns k t0 (r_24 - 1) z1 z2 (1 : Int32)) (dt_X7_wantsSigns t0 (r_24 - 1) z1 z2 (1 : Int32)) (fun r_26 u_27 => (dt_r _)))))) n48 m_n48 t0 z1 z2 z3 0)))) n5 m_n5 s0 x1 x2 0 0)))
set_option maxHeartbeats 4000000 in
theorem dl_X7_keepsAct_L53  {O : Type} {G_post G2_post : Md → (O → Prop) → Prop} {G_e87 G2_e87 : Md → Int32 → (O → Prop) → Prop} (h_post : ∀ v0, dt (G_post v0) (G2_post v0)) (h_e87 : ∀ v0 v1, dt (G_e87 v0 v1) (G2_e87 v0 v1)) : ∀ (n m : Nat) (t0 : Md) (z1 : Int32), dt (fun P : O → Prop => wp_X7_keepsAct_L53 (fun v0 => G_post v0 P) (fun v0 v1 => G_e87 v0 v1 P) n t0 z1) (fun P : O → Prop => wp_X7_keepsAct_L53 (fun v0 => G2_post v0 P) (fun v0 v1 => G2_e87 v0 v1 P) m t0 z1) := by
  intro n
  induction n with
  | zero => exact fun _ _ _ => dt_F
  | succ n53 ih =>
    intro m t0 z1
    have key : ∀ m9 : Nat, dt (fun P : O → Prop => wp_X7_keepsAct_L53 (fun v0 => G_post v0 P) (fun v0 v1 => G_e87 v0 v1 P) (n53 + 1) t0 z1) (fun P : O → Prop => wp_X7_keepsAct_L53 (fun v0 => G2_post v0 P) (fun v0 v1 => G2_e87 v0 v1 P) (m9 + 1) t0 z1) := by
      intro m9
      unfold wp_X7_keepsAct_L53
      exact (dt_p (h_e87 t0 z1) (dt_c (dt_c (ih m9 (t0.1, t0.2.1, (va_up t0.2.2.1 1 (vp_updL (t0.2.2.1 1) (Int32.toNatClampNeg ((6896 * (t0.1 0)) + z1)) ((t0.2.2.1 0) (Int32.toNatClampNeg z1)))), t0.2.2.2) (z1 + 1)))))
    cases m with
    | zero => exact dt_0 (key 0)
    | succ m9 => exact key m9
set_option maxHeartbeats 4000000 in
theorem dl_X7_keepsAct_L13  {O : Type} {G_post G2_post : Md → (O → Prop) → Prop} {G_e41 G2_e41 : Md → Int32 → (O → Prop) → Prop} (h_post : ∀ v0, dt (G_post v0) (G2_post v0)) (h_e41 : ∀ v0 v1, dt (G_e41 v0 v1) (G2_e41 v0 v1)) : ∀ (n m : Nat) (t0 : Md) (z1 : Int32), dt (fun P : O → Prop => wp_X7_keepsAct_L13 (fun v0 => G_post v0 P) (fun v0 v1 => G_e41 v0 v1 P) n t0 z1) (fun P : O → Prop => wp_X7_keepsAct_L13 (fun v0 => G2_post v0 P) (fun v0 v1 => G2_e41 v0 v1 P) m t0 z1) := by
  intro n
  induction n with
  | zero => exact fun _ _ _ => dt_F
  | succ n13 ih =>
    intro m t0 z1
    have key : ∀ m9 : Nat, dt (fun P : O → Prop => wp_X7_keepsAct_L13 (fun v0 => G_post v0 P) (fun v0 v1 => G_e41 v0 v1 P) (n13 + 1) t0 z1) (fun P : O → Prop => wp_X7_keepsAct_L13 (fun v0 => G2_post v0 P) (fun v0 v1 => G2_e41 v0 v1 P) (m9 + 1) t0 z1) := by
      intro m9
      unfold wp_X7_keepsAct_L13
      exact (dt_p (h_e41 t0 z1) (dt_c (dt_c (ih m9 (t0.1, t0.2.1, (va_up t0.2.2.1 1 (vp_updL (t0.2.2.1 1) (Int32.toNatClampNeg (z1 - 6896)) ((t0.2.2.1 1) (Int32.toNatClampNeg z1)))), t0.2.2.2) (z1 + 1)))))
    cases m with
    | zero => exact dt_0 (key 0)
    | succ m9 => exact key m9
set_option maxHeartbeats 4000000 in
theorem dt_X7_keepsAct (s0 : Md) : dt (fun P : Md → Prop => wp_X7_keepsAct (fun a0 => P a0) s0) (fun P : Md → Prop => wp_X7_keepsAct (fun a0 => P a0) s0) := by
  unfold wp_X7_keepsAct
  exact (dt_n (dt_x (fun n53 m_n53 => (dl_X7_keepsAct_L53  (fun v0 => (dt_r _)) (fun t0 z1 => (dt_r _)) n53 m_n53 s0 0))) (dt_x (fun n13 m_n13 => (dl_X7_keepsAct_L13  (fun v0 => (dt_r _)) (fun t0 z1 => (dt_x (fun n53 m_n53 => (dl_X7_keepsAct_L53  (fun v0 => (dt_r _)) (fun t0 z1 => (dt_r _)) n53 m_n53 ((va_up t0.1 0 ((t0.1 0) - 1)), t0.2.1, t0.2.2.1, t0.2.2.2) 0)))) n13 m_n13 s0 6896))))
set_option maxHeartbeats 4000000 in
theorem dl_X7_areSigns_L2 (s0 : Md) {O : Type} {G_post G2_post : Int32 → (O → Prop) → Prop} {G_e29 G2_e29 : Int32 → Int32 → Int32 → (O → Prop) → Prop} (h_post : ∀ v0, dt (G_post v0) (G2_post v0)) (h_e29 : ∀ v0 v1 v2, dt (G_e29 v0 v1 v2) (G2_e29 v0 v1 v2)) : ∀ (n m : Nat) (z1 : Int32) (z2 : Int32) (z3 : Int32), dt (fun P : O → Prop => wp_X7_areSigns_L2 s0 (fun v0 => G_post v0 P) (fun v0 v1 v2 => G_e29 v0 v1 v2 P) n z1 z2 z3) (fun P : O → Prop => wp_X7_areSigns_L2 s0 (fun v0 => G2_post v0 P) (fun v0 v1 v2 => G2_e29 v0 v1 v2 P) m z1 z2 z3) := by
  intro n
  induction n with
  | zero => exact fun _ _ _ _ => dt_F
  | succ n2 ih =>
    intro m z1 z2 z3
    have key : ∀ m9 : Nat, dt (fun P : O → Prop => wp_X7_areSigns_L2 s0 (fun v0 => G_post v0 P) (fun v0 v1 v2 => G_e29 v0 v1 v2 P) (n2 + 1) z1 z2 z3) (fun P : O → Prop => wp_X7_areSigns_L2 s0 (fun v0 => G2_post v0 P) (fun v0 v1 v2 => G2_e29 v0 v1 v2 P) (m9 + 1) z1 z2 z3) := by
      intro m9
      unfold wp_X7_areSigns_L2
      exact (dt_p (h_e29 z1 z2 z3) (dt_c (dt_b1 (F := fun k => wp_X7_isSign k ((s0.2.2.2 2) (Int32.toNatClampNeg (z1 + z3)))) (dt_X7_isSign ((s0.2.2.2 2) (Int32.toNatClampNeg (z1 + z3)))) (fun r_3 => (dt_n (ih m9 z1 z2 (z3 + 1)) (h_post 0))))))
    cases m with
    | zero => exact dt_0 (key 0)
    | succ m9 => exact key m9
set_option maxHeartbeats 4000000 in
theorem dt_X7_areSigns (s0 : Md) (x1 : Int32) (x2 : Int32) : dt (fun P : Int32 → Prop => wp_X7_areSigns (fun a0 => P a0) s0 x1 x2) (fun P : Int32 → Prop => wp_X7_areSigns (fun a0 => P a0) s0 x1 x2) := by
  unfold wp_X7_areSigns
  exact (dt_x (fun n2 m_n2 => (dl_X7_areSigns_L2 s0 (fun v0 => (dt_r _)) (fun z1 z2 z3 => (dt_r _)) n2 m_n2 x1 x2 0)))
set_option maxHeartbeats 4000000 in
theorem dt_X7_isRowText (s0 : Md) (x1 : Int32) : dt (fun P : Int32 → Prop => wp_X7_isRowText (fun a0 => P a0) s0 x1) (fun P : Int32 → Prop => wp_X7_isRowText (fun a0 => P a0) s0 x1) := by
  unfold wp_X7_isRowText
  exact (dt_b1 (F := fun k => wp_X7_wide k s0) (dt_X7_wide s0) (fun r_1 => (dt_p (dt_r _) (dt_b1 (F := fun k => wp_X7_areSigns k s0 (0 : Int32) x1) (dt_X7_areSigns s0 (0 : Int32) x1) (fun r_4 => (dt_p (dt_r _) (dt_r _)))))))
set_option maxHeartbeats 4000000 in
theorem dt_X7_row (s0 : Md) (x1 : Int32) : dt (fun P : (Int32 × Md) → Prop => wp_X7_row (fun a0 a1 => P (a0, a1)) s0 x1) (fun P : (Int32 × Md) → Prop => wp_X7_row (fun a0 a1 => P (a0, a1)) s0 x1) := by
  unfold wp_X7_row
  exact (dt_b1 (F := fun k => wp_X7_isRow k ((va_up s0.1 5 0), s0.2.1, s0.2.2.1, s0.2.2.2) x1) (dt_X7_isRow ((va_up s0.1 5 0), s0.2.1, s0.2.2.1, s0.2.2.2) x1) (fun r_1 => (dt_n (dt_b1 (F := fun k => wp_X7_isRowText k ((va_up s0.1 5 0), s0.2.1, s0.2.2.1, s0.2.2.2) (s0.1 5)) (dt_X7_isRowText ((va_up s0.1 5 0), s0.2.1, s0.2.2.1, s0.2.2.2) (s0.1 5)) (fun r_4 => (dt_n (dt_b1 (F := fun k => wp_X7_keepsAct k ((va_up s0.1 5 0), s0.2.1, s0.2.2.1, s0.2.2.2)) (dt_X7_keepsAct ((va_up s0.1 5 0), s0.2.1, s0.2.2.1, s0.2.2.2)) (fun u_8 => (dt_b2 (F := fun k => wp_X7_wantsSigns k u_8 x1 (0 : Int32) (s0.1 5) (1 : Int32)) (dt_X7_wantsSigns u_8 x1 (0 : Int32) (s0.1 5) (1 : Int32)) (fun r_9 u_10 => (dt_r _))))) (dt_r _)))) (dt_r _))))
set_option maxHeartbeats 4000000 in
theorem dt_X7_scroll (s0 : Md) : dt (fun P : (Int32 × Md) → Prop => wp_X7_scroll (fun a0 a1 => P (a0, a1)) s0) (fun P : (Int32 × Md) → Prop => wp_X7_scroll (fun a0 a1 => P (a0, a1)) s0) := by
  unfold wp_X7_scroll
  exact (dt_b1 (F := fun k => wp_X7_isBoard k ((va_up s0.1 5 0), s0.2.1, s0.2.2.1, s0.2.2.2)) (dt_X7_isBoard ((va_up s0.1 5 0), s0.2.1, s0.2.2.1, s0.2.2.2)) (fun r_1 => (dt_n (dt_b1 (F := fun k => wp_X7_isRowText k ((va_up s0.1 5 0), s0.2.1, s0.2.2.1, s0.2.2.2) (s0.1 5)) (dt_X7_isRowText ((va_up s0.1 5 0), s0.2.1, s0.2.2.1, s0.2.2.2) (s0.1 5)) (fun r_4 => (dt_n (dt_b1 (F := fun k => wp_X7_keepsAct k ((va_up s0.1 5 0), s0.2.1, s0.2.2.1, s0.2.2.2)) (dt_X7_keepsAct ((va_up s0.1 5 0), s0.2.1, s0.2.2.1, s0.2.2.2)) (fun u_8 => (dt_b2 (F := fun k => wp_X7_scrolls k u_8 (0 : Int32) (s0.1 5)) (dt_X7_scrolls u_8 (0 : Int32) (s0.1 5)) (fun r_9 u_10 => (dt_r _))))) (dt_r _)))) (dt_r _))))
set_option maxHeartbeats 4000000 in
theorem dl_X7_tick_L29  {O : Type} {G_post G2_post : Int32 → Md → (O → Prop) → Prop} {G_e47 G2_e47 : Md → Int32 → Int32 → Int32 → (O → Prop) → Prop} (h_post : ∀ v0 v1, dt (G_post v0 v1) (G2_post v0 v1)) (h_e47 : ∀ v0 v1 v2 v3, dt (G_e47 v0 v1 v2 v3) (G2_e47 v0 v1 v2 v3)) : ∀ (n m : Nat) (t0 : Md) (z1 : Int32) (z2 : Int32) (z3 : Int32), dt (fun P : O → Prop => wp_X7_tick_L29 (fun v0 v1 => G_post v0 v1 P) (fun v0 v1 v2 v3 => G_e47 v0 v1 v2 v3 P) n t0 z1 z2 z3) (fun P : O → Prop => wp_X7_tick_L29 (fun v0 v1 => G2_post v0 v1 P) (fun v0 v1 v2 v3 => G2_e47 v0 v1 v2 v3 P) m t0 z1 z2 z3) := by
  intro n
  induction n with
  | zero => exact fun _ _ _ _ _ => dt_F
  | succ n29 ih =>
    intro m t0 z1 z2 z3
    have key : ∀ m9 : Nat, dt (fun P : O → Prop => wp_X7_tick_L29 (fun v0 v1 => G_post v0 v1 P) (fun v0 v1 v2 v3 => G_e47 v0 v1 v2 v3 P) (n29 + 1) t0 z1 z2 z3) (fun P : O → Prop => wp_X7_tick_L29 (fun v0 v1 => G2_post v0 v1 P) (fun v0 v1 v2 v3 => G2_e47 v0 v1 v2 v3 P) (m9 + 1) t0 z1 z2 z3) := by
      intro m9
      unfold wp_X7_tick_L29
      exact (dt_p (h_e47 t0 z1 z2 z3) (dt_b2 (F := fun k => wp_X7_ticks k t0) (dt_X7_ticks t0) (fun r_10 u_11 => (ih m9 u_11 z1 (z2 + r_10) (z3 + 1)))))
    cases m with
    | zero => exact dt_0 (key 0)
    | succ m9 => exact key m9
set_option maxHeartbeats 4000000 in
theorem dt_X7_tick (s0 : Md) (x1 : Int32) : dt (fun P : (Int32 × Md) → Prop => wp_X7_tick (fun a0 a1 => P (a0, a1)) s0 x1) (fun P : (Int32 × Md) → Prop => wp_X7_tick (fun a0 a1 => P (a0, a1)) s0 x1) := by
  unfold wp_X7_tick
  exact (dt_b1 (F := fun k => wp_X7_isBoard k s0) (dt_X7_isBoard s0) (fun r_1 => (dt_p (dt_r _) (dt_b1 (F := fun k => wp_X7_in k (Int32.toInt64 x1) (1 : Int64) (99 : Int64)) (dt_X7_in (Int32.toInt64 x1) (1 : Int64) (99 : Int64)) (fun r_4 => (dt_n (dt_b1 (F := fun k => wp_X7_keepsAct k s0) (dt_X7_keepsAct s0) (fun u_8 => (dt_x (fun n29 m_n29 => (dl_X7_tick_L29  (fun v0 v1 => (dt_r _)) (fun t0 z1 z2 z3 => (dt_r _)) n29 m_n29 u_8 x1 0 0))))) (dt_r _)))))))
set_option maxHeartbeats 4000000 in
theorem dl_X7_settles_L2  {O : Type} {G_post G2_post : Int32 → Md → (O → Prop) → Prop} {G_e15 G2_e15 : Md → Int32 → (O → Prop) → Prop} (h_post : ∀ v0 v1, dt (G_post v0 v1) (G2_post v0 v1)) (h_e15 : ∀ v0 v1, dt (G_e15 v0 v1) (G2_e15 v0 v1)) : ∀ (n m : Nat) (t0 : Md) (z1 : Int32), dt (fun P : O → Prop => wp_X7_settles_L2 (fun v0 v1 => G_post v0 v1 P) (fun v0 v1 => G_e15 v0 v1 P) n t0 z1) (fun P : O → Prop => wp_X7_settles_L2 (fun v0 v1 => G2_post v0 v1 P) (fun v0 v1 => G2_e15 v0 v1 P) m t0 z1) := by
  intro n
  induction n with
  | zero => exact fun _ _ _ => dt_F
  | succ n2 ih =>
    intro m t0 z1
    have key : ∀ m9 : Nat, dt (fun P : O → Prop => wp_X7_settles_L2 (fun v0 v1 => G_post v0 v1 P) (fun v0 v1 => G_e15 v0 v1 P) (n2 + 1) t0 z1) (fun P : O → Prop => wp_X7_settles_L2 (fun v0 v1 => G2_post v0 v1 P) (fun v0 v1 => G2_e15 v0 v1 P) (m9 + 1) t0 z1) := by
      intro m9
      unfold wp_X7_settles_L2
      exact (dt_b2 (F := fun k => wp_X7_ticks k t0) (dt_X7_ticks t0) (fun r_1 u_2 => (dt_p (h_e15 u_2 z1) (ih m9 u_2 (z1 + 1)))))
    cases m with
    | zero => exact dt_0 (key 0)
    | succ m9 => exact key m9
set_option maxHeartbeats 4000000 in
theorem dt_X7_settles (s0 : Md) : dt (fun P : (Int32 × Md) → Prop => wp_X7_settles (fun a0 a1 => P (a0, a1)) s0) (fun P : (Int32 × Md) → Prop => wp_X7_settles (fun a0 a1 => P (a0, a1)) s0) := by
  unfold wp_X7_settles
  exact (dt_x (fun n2 m_n2 => (dl_X7_settles_L2  (fun v0 v1 => (dt_r _)) (fun t0 z1 => (dt_r _)) n2 m_n2 s0 0)))
set_option maxHeartbeats 4000000 in
theorem dt_X7_settle (s0 : Md) : dt (fun P : (Int32 × Md) → Prop => wp_X7_settle (fun a0 a1 => P (a0, a1)) s0) (fun P : (Int32 × Md) → Prop => wp_X7_settle (fun a0 a1 => P (a0, a1)) s0) := by
  unfold wp_X7_settle
  exact (dt_b1 (F := fun k => wp_X7_isBoard k s0) (dt_X7_isBoard s0) (fun r_1 => (dt_n (dt_b1 (F := fun k => wp_X7_findsTurning k s0) (dt_X7_findsTurning s0) (fun u_5 => (dt_n (dt_b1 (F := fun k => wp_X7_keepsAct k u_5) (dt_X7_keepsAct u_5) (fun u_8 => (dt_b2 (F := fun k => wp_X7_settles k u_8) (dt_X7_settles u_8) (fun r_9 u_10 => (dt_r _))))) (dt_r _)))) (dt_r _))))
set_option maxHeartbeats 4000000 in
theorem dt_X7_lose (s0 : Md) (x1 : Int32) (x2 : Int32) : dt (fun P : (Int32 × Md) → Prop => wp_X7_lose (fun a0 a1 => P (a0, a1)) s0 x1 x2) (fun P : (Int32 × Md) → Prop => wp_X7_lose (fun a0 a1 => P (a0, a1)) s0 x1 x2) := by
  unfold wp_X7_lose
  exact (dt_b1 (F := fun k => wp_X7_isCell k s0 x1) (dt_X7_isCell s0 x1) (fun r_1 => (dt_p (dt_r _) (dt_b1 (F := fun k => wp_X7_in k (Int32.toInt64 x2) (0 : Int64) (9 : Int64)) (dt_X7_in (Int32.toInt64 x2) (0 : Int64) (9 : Int64)) (fun r_4 => (dt_n (dt_b1 (F := fun k => wp_X7_of k s0 x1 (4 : Int32)) (dt_X7_of s0 x1 (4 : Int32)) (fun r_7 => (dt_n (dt_b1 (F := fun k => wp_X7_keepsAct k s0) (dt_X7_keepsAct s0) (fun u_11 => (dt_b1 (F := fun k => wp_X7_sets k u_11 x1 (4 : Int32) (Int32.toInt64 x2)) (dt_X7_sets u_11 x1 (4 : Int32) (Int32.toInt64 x2)) (fun u_13 => (dt_r _))))) (dt_r _)))) (dt_r _)))))))
set_option maxHeartbeats 4000000 in
theorem dt_X7_isFlap (s0 : Md) (x1 : Int32) (x2 : Int32) : dt (fun P : Int32 → Prop => wp_X7_isFlap (fun a0 => P a0) s0 x1 x2) (fun P : Int32 → Prop => wp_X7_isFlap (fun a0 => P a0) s0 x1 x2) := by
  unfold wp_X7_isFlap
  exact (dt_b1 (F := fun k => wp_X7_isCell k s0 x1) (dt_X7_isCell s0 x1) (fun r_1 => (dt_p (dt_r _) (dt_b1 (F := fun k => wp_X7_flaps k s0 x1) (dt_X7_flaps s0 x1) (fun r_4 => (dt_b1 (F := fun k => wp_X7_in k (Int32.toInt64 x2) (1 : Int64) (Int32.toInt64 (r_4 - 1))) (dt_X7_in (Int32.toInt64 x2) (1 : Int64) (Int32.toInt64 (r_4 - 1))) (fun r_6 => (dt_p (dt_r _) (dt_r _)))))))))
set_option maxHeartbeats 4000000 in
theorem dt_X7_wears (s0 : Md) (x1 : Int32) (x2 : Int32) : dt (fun P : Md → Prop => wp_X7_wears (fun a0 => P a0) s0 x1 x2) (fun P : Md → Prop => wp_X7_wears (fun a0 => P a0) s0 x1 x2) := by
  unfold wp_X7_wears
  exact (dt_b1 (F := fun k => wp_X7_wornOf k s0 x1) (dt_X7_wornOf s0 x1) (fun r_1 => (dt_b1 (F := fun k => wp_X7_sets k s0 x1 (7 : Int32) (r_1 ||| ((1 : Int64) <<< ((Int32.toInt64 x2) &&& 63)))) (dt_X7_sets s0 x1 (7 : Int32) (r_1 ||| ((1 : Int64) <<< ((Int32.toInt64 x2) &&& 63)))) (fun u_4 => (dt_b1 (F := fun k => wp_X7_of k u_4 x1 (3 : Int32)) (dt_X7_of u_4 x1 (3 : Int32)) (fun r_5 => (dt_n (dt_r _) (dt_b1 (F := fun k => wp_X7_sets k u_4 x1 (3 : Int32) (0 : Int64)) (dt_X7_sets u_4 x1 (3 : Int32) (0 : Int64)) (fun u_9 => (dt_r _))))))))))
set_option maxHeartbeats 4000000 in
theorem dt_X7_wear (s0 : Md) (x1 : Int32) (x2 : Int32) : dt (fun P : (Int32 × Md) → Prop => wp_X7_wear (fun a0 a1 => P (a0, a1)) s0 x1 x2) (fun P : (Int32 × Md) → Prop => wp_X7_wear (fun a0 a1 => P (a0, a1)) s0 x1 x2) := by
  unfold wp_X7_wear
  exact (dt_b1 (F := fun k => wp_X7_isFlap k s0 x1 x2) (dt_X7_isFlap s0 x1 x2) (fun r_1 => (dt_n (dt_b1 (F := fun k => wp_X7_wornOf k s0 x1) (dt_X7_wornOf s0 x1) (fun r_4 => (dt_b1 (F := fun k => wp_X7_isIn k r_4 x2) (dt_X7_isIn r_4 x2) (fun r_6 => (dt_p (dt_b1 (F := fun k => wp_X7_keepsAct k s0) (dt_X7_keepsAct s0) (fun u_10 => (dt_b1 (F := fun k => wp_X7_wears k u_10 x1 x2) (dt_X7_wears u_10 x1 x2) (fun u_12 => (dt_b1 (F := fun k => wp_X7_wornOf k u_12 x1) (dt_X7_wornOf u_12 x1) (fun r_13 => (dt_b1 (F := fun k => wp_X7_bits k r_13) (dt_X7_bits r_13) (fun r_15 => (dt_r _))))))))) (dt_r _)))))) (dt_r _))))
set_option maxHeartbeats 4000000 in
theorem dt_X7_mend (s0 : Md) (x1 : Int32) (x2 : Int32) : dt (fun P : (Int32 × Md) → Prop => wp_X7_mend (fun a0 a1 => P (a0, a1)) s0 x1 x2) (fun P : (Int32 × Md) → Prop => wp_X7_mend (fun a0 a1 => P (a0, a1)) s0 x1 x2) := by
  unfold wp_X7_mend
  exact (dt_b1 (F := fun k => wp_X7_isFlap k s0 x1 x2) (dt_X7_isFlap s0 x1 x2) (fun r_1 => (dt_n (dt_b1 (F := fun k => wp_X7_wornOf k s0 x1) (dt_X7_wornOf s0 x1) (fun r_4 => (dt_b1 (F := fun k => wp_X7_isIn k r_4 x2) (dt_X7_isIn r_4 x2) (fun r_6 => (dt_n (dt_b1 (F := fun k => wp_X7_keepsAct k s0) (dt_X7_keepsAct s0) (fun u_10 => (dt_b1 (F := fun k => wp_X7_wornOf k u_10 x1) (dt_X7_wornOf u_10 x1) (fun r_11 => (dt_b1 (F := fun k => wp_X7_sets k u_10 x1 (7 : Int32) (r_11 &&& (((1 : Int64) <<< ((Int32.toInt64 x2) &&& 63)) ^^^ (-1)))) (dt_X7_sets u_10 x1 (7 : Int32) (r_11 &&& (((1 : Int64) <<< ((Int32.toInt64 x2) &&& 63)) ^^^ (-1)))) (fun u_14 => (dt_b1 (F := fun k => wp_X7_wornOf k u_14 x1) (dt_X7_wornOf u_14 x1) (fun r_15 => (dt_b1 (F := fun k => wp_X7_bits k r_15) (dt_X7_bits r_15) (fun r_17 => (dt_r _))))))))))) (dt_r _)))))) (dt_r _))))
set_option maxHeartbeats 4000000 in
theorem dt_X7_limit (s0 : Md) (x1 : Int32) : dt (fun P : (Int32 × Md) → Prop => wp_X7_limit (fun a0 a1 => P (a0, a1)) s0 x1) (fun P : (Int32 × Md) → Prop => wp_X7_limit (fun a0 a1 => P (a0, a1)) s0 x1) := by
  unfold wp_X7_limit
  exact (dt_b1 (F := fun k => wp_X7_isBoard k s0) (dt_X7_isBoard s0) (fun r_1 => (dt_p (dt_r _) (dt_b1 (F := fun k => wp_X7_in k (Int32.toInt64 x1) (1 : Int64) (99 : Int64)) (dt_X7_in (Int32.toInt64 x1) (1 : Int64) (99 : Int64)) (fun r_4 => (dt_n (dt_n (dt_b1 (F := fun k => wp_X7_keepsAct k s0) (dt_X7_keepsAct s0) (fun u_9 => (dt_r _))) (dt_r _)) (dt_r _)))))))
set_option maxHeartbeats 4000000 in
theorem dl_X7_exchange_L109  {O : Type} {G_post G2_post : Int32 → Md → (O → Prop) → Prop} {G_e131 G2_e131 : Md → Int32 → Int32 → Int32 → Int32 → Int64 → Int32 → (O → Prop) → Prop} (h_post : ∀ v0 v1, dt (G_post v0 v1) (G2_post v0 v1)) (h_e131 : ∀ v0 v1 v2 v3 v4 v5 v6, dt (G_e131 v0 v1 v2 v3 v4 v5 v6) (G2_e131 v0 v1 v2 v3 v4 v5 v6)) : ∀ (n m : Nat) (t0 : Md) (z1 : Int32) (z2 : Int32) (z3 : Int32) (z4 : Int32) (w5 : Int64) (z7 : Int32), dt (fun P : O → Prop => wp_X7_exchange_L109 (fun v0 v1 => G_post v0 v1 P) (fun v0 v1 v2 v3 v4 v5 v6 => G_e131 v0 v1 v2 v3 v4 v5 v6 P) n t0 z1 z2 z3 z4 w5 z7) (fun P : O → Prop => wp_X7_exchange_L109 (fun v0 v1 => G2_post v0 v1 P) (fun v0 v1 v2 v3 v4 v5 v6 => G2_e131 v0 v1 v2 v3 v4 v5 v6 P) m t0 z1 z2 z3 z4 w5 z7) := by
  intro n
  induction n with
  | zero => exact fun _ _ _ _ _ _ _ _ => dt_F
  | succ n109 ih =>
    intro m t0 z1 z2 z3 z4 w5 z7
    have key : ∀ m9 : Nat, dt (fun P : O → Prop => wp_X7_exchange_L109 (fun v0 v1 => G_post v0 v1 P) (fun v0 v1 v2 v3 v4 v5 v6 => G_e131 v0 v1 v2 v3 v4 v5 v6 P) (n109 + 1) t0 z1 z2 z3 z4 w5 z7) (fun P : O → Prop => wp_X7_exchange_L109 (fun v0 v1 => G2_post v0 v1 P) (fun v0 v1 v2 v3 v4 v5 v6 => G2_e131 v0 v1 v2 v3 v4 v5 v6 P) (m9 + 1) t0 z1 z2 z3 z4 w5 z7) := by
      intro m9
      unfold wp_X7_exchange_L109
      exact (dt_p (h_e131 t0 z1 z2 z3 z4 w5 z7) (dt_c (ih m9 (t0.1, t0.2.1, (va_up t0.2.2.1 0 (vp_updL (t0.2.2.1 0) (Int32.toNatClampNeg z7) 0)), t0.2.2.2) z1 z2 z3 z4 w5 (z7 + 1))))
    cases m with
    | zero => exact dt_0 (key 0)
    | succ m9 => exact key m9
set_option maxHeartbeats 4000000 in
theorem dt_X7_exchange (s0 : Md) (x1 : Int32) (x2 : Int32) (x3 : Int32) : dt (fun P : (Int32 × Md) → Prop => wp_X7_exchange (fun a0 a1 => P (a0, a1)) s0 x1 x2 x3) (fun P : (Int32 × Md) → Prop => wp_X7_exchange (fun a0 a1 => P (a0, a1)) s0 x1 x2 x3) := by
  unfold wp_X7_exchange
  exact (dt_b1 (F := fun k => wp_X7_isDrum k s0 x1) (dt_X7_isDrum s0 x1) (fun r_1 => (dt_p (dt_r _) (dt_b1 (F := fun k => wp_X7_flapsOf k s0 x1) (dt_X7_flapsOf s0 x1) (fun r_4 => (dt_b1 (F := fun k => wp_X7_in k (Int32.toInt64 x2) (1 : Int64) (Int32.toInt64 (r_4 - 1))) (dt_X7_in (Int32.toInt64 x2) (1 : Int64) (Int32.toInt64 (r_4 - 1))) (fun r_6 => (dt_p (dt_r _) (dt_b1 (F := fun k => wp_X7_flapsOf k s0 x1) (dt_X7_flapsOf s0 x1) (fun r_9 => (dt_b1 (F := fun k => wp_X7_in k (Int32.toInt64 x3) (1 : Int64) (Int32.toInt64 (r_9 - 1))) (dt_X7_in (Int32.toInt64 x3) (1 : Int64) (Int32.toInt64 (r_9 - 1))) (fun r_11 => (dt_p (dt_r _) (dt_n (dt_b1 (F := fun k => wp_X7_keepsAct k s0) (dt_X7_keepsAct s0) (fun u_16 => (dt_c (dt_c (dt_c (dt_c (dt_x (fun n109 m_n109 => (dl_X7_exchange_L109  (fun v0 v1 => (dt_r _)) (fun t0 z1 z2 z3 z4 w5 z7 => (dt_r _)) n109 m_n109 (u_16.1, u_16.2.1, (va_up u_16.2.2.1 0 (vp_updL (vp_updL (u_16.2.2.1 0) (Int32.toNatClampNeg (((8 + (42 * x1)) + 2) + x2)) ((u_16.2.2.1 0) (Int32.toNatClampNeg (((8 + (42 * x1)) + 2) + x3)))) (Int32.toNatClampNeg (((8 + (42 * x1)) + 2) + x3)) ((u_16.2.2.1 0) (Int32.toNatClampNeg (((8 + (42 * x1)) + 2) + x2))))), u_16.2.2.2) x1 x2 x3 ((8 + (42 * x1)) + 2) ((u_16.2.2.1 0) (Int32.toNatClampNeg (((8 + (42 * x1)) + 2) + x2))) 496))))))))) (dt_r _)))))))))))))))
set_option maxHeartbeats 4000000 in
theorem dl_X7_undo_L21  {O : Type} {G_post G2_post : Int32 → Md → (O → Prop) → Prop} {G_e55 G2_e55 : Md → Int32 → (O → Prop) → Prop} (h_post : ∀ v0 v1, dt (G_post v0 v1) (G2_post v0 v1)) (h_e55 : ∀ v0 v1, dt (G_e55 v0 v1) (G2_e55 v0 v1)) : ∀ (n m : Nat) (t0 : Md) (z1 : Int32), dt (fun P : O → Prop => wp_X7_undo_L21 (fun v0 v1 => G_post v0 v1 P) (fun v0 v1 => G_e55 v0 v1 P) n t0 z1) (fun P : O → Prop => wp_X7_undo_L21 (fun v0 v1 => G2_post v0 v1 P) (fun v0 v1 => G2_e55 v0 v1 P) m t0 z1) := by
  intro n
  induction n with
  | zero => exact fun _ _ _ => dt_F
  | succ n21 ih =>
    intro m t0 z1
    have key : ∀ m9 : Nat, dt (fun P : O → Prop => wp_X7_undo_L21 (fun v0 v1 => G_post v0 v1 P) (fun v0 v1 => G_e55 v0 v1 P) (n21 + 1) t0 z1) (fun P : O → Prop => wp_X7_undo_L21 (fun v0 v1 => G2_post v0 v1 P) (fun v0 v1 => G2_e55 v0 v1 P) (m9 + 1) t0 z1) := by
      intro m9
      unfold wp_X7_undo_L21
      exact (dt_p (h_e55 t0 z1) (dt_c (dt_c (ih m9 (t0.1, t0.2.1, (va_up t0.2.2.1 0 (vp_updL (t0.2.2.1 0) (Int32.toNatClampNeg z1) ((t0.2.2.1 1) (Int32.toNatClampNeg ((6896 * (t0.1 0)) + z1))))), t0.2.2.2) (z1 + 1)))))
    cases m with
    | zero => exact dt_0 (key 0)
    | succ m9 => exact key m9
set_option maxHeartbeats 4000000 in
theorem dt_X7_undo (s0 : Md) : dt (fun P : (Int32 × Md) → Prop => wp_X7_undo (fun a0 a1 => P (a0, a1)) s0) (fun P : (Int32 × Md) → Prop => wp_X7_undo (fun a0 a1 => P (a0, a1)) s0) := by
  unfold wp_X7_undo
  exact (dt_n (dt_x (fun n21 m_n21 => (dl_X7_undo_L21  (fun v0 v1 => (dt_r _)) (fun t0 z1 => (dt_r _)) n21 m_n21 ((va_up s0.1 0 ((s0.1 0) - 1)), s0.2.1, s0.2.2.1, s0.2.2.2) 0))) (dt_r _))
set_option maxHeartbeats 4000000 in
theorem dl_X7_keep_L14  {O : Type} {G_post G2_post : Int32 → Md → (O → Prop) → Prop} {G_e45 G2_e45 : Md → Int32 → Int32 → (O → Prop) → Prop} (h_post : ∀ v0 v1, dt (G_post v0 v1) (G2_post v0 v1)) (h_e45 : ∀ v0 v1 v2, dt (G_e45 v0 v1 v2) (G2_e45 v0 v1 v2)) : ∀ (n m : Nat) (t0 : Md) (z1 : Int32) (z2 : Int32), dt (fun P : O → Prop => wp_X7_keep_L14 (fun v0 v1 => G_post v0 v1 P) (fun v0 v1 v2 => G_e45 v0 v1 v2 P) n t0 z1 z2) (fun P : O → Prop => wp_X7_keep_L14 (fun v0 v1 => G2_post v0 v1 P) (fun v0 v1 v2 => G2_e45 v0 v1 v2 P) m t0 z1 z2) := by
  intro n
  induction n with
  | zero => exact fun _ _ _ _ => dt_F
  | succ n14 ih =>
    intro m t0 z1 z2
    have key : ∀ m9 : Nat, dt (fun P : O → Prop => wp_X7_keep_L14 (fun v0 v1 => G_post v0 v1 P) (fun v0 v1 v2 => G_e45 v0 v1 v2 P) (n14 + 1) t0 z1 z2) (fun P : O → Prop => wp_X7_keep_L14 (fun v0 v1 => G2_post v0 v1 P) (fun v0 v1 v2 => G2_e45 v0 v1 v2 P) (m9 + 1) t0 z1 z2) := by
      intro m9
      unfold wp_X7_keep_L14
      exact (dt_p (h_e45 t0 z1 z2) (dt_c (dt_c (ih m9 (t0.1, t0.2.1, (va_up t0.2.2.1 2 (vp_updL (t0.2.2.1 2) (Int32.toNatClampNeg ((6896 * z1) + z2)) ((t0.2.2.1 0) (Int32.toNatClampNeg z2)))), t0.2.2.2) z1 (z2 + 1)))))
    cases m with
    | zero => exact dt_0 (key 0)
    | succ m9 => exact key m9
set_option maxHeartbeats 4000000 in
theorem dt_X7_keep (s0 : Md) (x1 : Int32) : dt (fun P : (Int32 × Md) → Prop => wp_X7_keep (fun a0 a1 => P (a0, a1)) s0 x1) (fun P : (Int32 × Md) → Prop => wp_X7_keep (fun a0 a1 => P (a0, a1)) s0 x1) := by
  unfold wp_X7_keep
  exact (dt_b1 (F := fun k => wp_X7_in k (Int32.toInt64 x1) (0 : Int64) (1 : Int64)) (dt_X7_in (Int32.toInt64 x1) (0 : Int64) (1 : Int64)) (fun r_1 => (dt_n (dt_x (fun n14 m_n14 => (dl_X7_keep_L14  (fun v0 v1 => (dt_r _)) (fun t0 z1 z2 => (dt_c (dt_b1 (F := fun k => wp_X7_cells k (t0.1, t0.2.1, t0.2.2.1, (va_up t0.2.2.2 0 (upd (t0.2.2.2 0) (Int32.toNatClampNeg z1) (vp_nar .boolean 1))))) (dt_X7_cells (t0.1, t0.2.1, t0.2.2.1, (va_up t0.2.2.2 0 (upd (t0.2.2.2 0) (Int32.toNatClampNeg z1) (vp_nar .boolean 1))))) (fun r_8 => (dt_r _))))) n14 m_n14 s0 x1 0))) (dt_r _))))
set_option maxHeartbeats 4000000 in
theorem dl_X7_back_L26  {O : Type} {G_post G2_post : Int32 → Md → (O → Prop) → Prop} {G_e57 G2_e57 : Md → Int32 → Int32 → (O → Prop) → Prop} (h_post : ∀ v0 v1, dt (G_post v0 v1) (G2_post v0 v1)) (h_e57 : ∀ v0 v1 v2, dt (G_e57 v0 v1 v2) (G2_e57 v0 v1 v2)) : ∀ (n m : Nat) (t0 : Md) (z1 : Int32) (z2 : Int32), dt (fun P : O → Prop => wp_X7_back_L26 (fun v0 v1 => G_post v0 v1 P) (fun v0 v1 v2 => G_e57 v0 v1 v2 P) n t0 z1 z2) (fun P : O → Prop => wp_X7_back_L26 (fun v0 v1 => G2_post v0 v1 P) (fun v0 v1 v2 => G2_e57 v0 v1 v2 P) m t0 z1 z2) := by
  intro n
  induction n with
  | zero => exact fun _ _ _ _ => dt_F
  | succ n26 ih =>
    intro m t0 z1 z2
    have key : ∀ m9 : Nat, dt (fun P : O → Prop => wp_X7_back_L26 (fun v0 v1 => G_post v0 v1 P) (fun v0 v1 v2 => G_e57 v0 v1 v2 P) (n26 + 1) t0 z1 z2) (fun P : O → Prop => wp_X7_back_L26 (fun v0 v1 => G2_post v0 v1 P) (fun v0 v1 v2 => G2_e57 v0 v1 v2 P) (m9 + 1) t0 z1 z2) := by
      intro m9
      unfold wp_X7_back_L26
      exact (dt_p (h_e57 t0 z1 z2) (dt_c (dt_c (ih m9 (t0.1, t0.2.1, (va_up t0.2.2.1 0 (vp_updL (t0.2.2.1 0) (Int32.toNatClampNeg z2) ((t0.2.2.1 2) (Int32.toNatClampNeg ((6896 * z1) + z2))))), t0.2.2.2) z1 (z2 + 1)))))
    cases m with
    | zero => exact dt_0 (key 0)
    | succ m9 => exact key m9
set_option maxHeartbeats 4000000 in
theorem dt_X7_back (s0 : Md) (x1 : Int32) : dt (fun P : (Int32 × Md) → Prop => wp_X7_back (fun a0 a1 => P (a0, a1)) s0 x1) (fun P : (Int32 × Md) → Prop => wp_X7_back (fun a0 a1 => P (a0, a1)) s0 x1) := by
  unfold wp_X7_back
  exact (dt_b1 (F := fun k => wp_X7_in k (Int32.toInt64 x1) (0 : Int64) (1 : Int64)) (dt_X7_in (Int32.toInt64 x1) (0 : Int64) (1 : Int64)) (fun r_1 => (dt_n (dt_c (dt_n (dt_x (fun n26 m_n26 => (dl_X7_back_L26  (fun v0 v1 => (dt_r _)) (fun t0 z1 z2 => (dt_b1 (F := fun k => wp_X7_cells k ((va_up t0.1 0 0), t0.2.1, t0.2.2.1, t0.2.2.2)) (dt_X7_cells ((va_up t0.1 0 0), t0.2.1, t0.2.2.1, t0.2.2.2)) (fun r_9 => (dt_r _)))) n26 m_n26 s0 x1 0))) (dt_r _))) (dt_r _))))
set_option maxHeartbeats 4000000 in
theorem dt_X7_cell (s0 : Md) (x1 : Int32) (x2 : Int32) : dt (fun P : Int32 → Prop => wp_X7_cell (fun a0 => P a0) s0 x1 x2) (fun P : Int32 → Prop => wp_X7_cell (fun a0 => P a0) s0 x1 x2) := by
  unfold wp_X7_cell
  exact (dt_b1 (F := fun k => wp_X7_isCell k s0 x1) (dt_X7_isCell s0 x1) (fun r_1 => (dt_n (dt_p (dt_b1 (F := fun k => wp_X7_of k s0 x1 x2) (dt_X7_of s0 x1 x2) (fun r_5 => (dt_r _))) (dt_p (dt_b1 (F := fun k => wp_X7_of k s0 x1 x2) (dt_X7_of s0 x1 x2) (fun r_8 => (dt_r _))) (dt_p (dt_b1 (F := fun k => wp_X7_of k s0 x1 x2) (dt_X7_of s0 x1 x2) (fun r_11 => (dt_r _))) (dt_p (dt_b1 (F := fun k => wp_X7_of k s0 x1 x2) (dt_X7_of s0 x1 x2) (fun r_14 => (dt_r _))) (dt_p (dt_b1 (F := fun k => wp_X7_leftOf k s0 x1) (dt_X7_leftOf s0 x1) (fun r_17 => (dt_r _))) (dt_p (dt_b1 (F := fun k => wp_X7_of k s0 x1 (4 : Int32)) (dt_X7_of s0 x1 (4 : Int32)) (fun r_20 => (dt_r _))) (dt_p (dt_b1 (F := fun k => wp_X7_of k s0 x1 (5 : Int32)) (dt_X7_of s0 x1 (5 : Int32)) (fun r_23 => (dt_r _))) (dt_p (dt_b1 (F := fun k => wp_X7_of k s0 x1 (6 : Int32)) (dt_X7_of s0 x1 (6 : Int32)) (fun r_26 => (dt_r _))) (dt_p (dt_b1 (F := fun k => wp_X7_wornOf k s0 x1) (dt_X7_wornOf s0 x1) (fun r_29 => (dt_b1 (F := fun k => wp_X7_bits k r_29) (dt_X7_bits r_29) (fun r_31 => (dt_r _))))) (dt_r _)))))))))) (dt_r _))))
set_option maxHeartbeats 4000000 in
theorem dt_X7_worn (s0 : Md) (x1 : Int32) : dt (fun P : Int64 → Prop => wp_X7_worn (fun a0 => P a0) s0 x1) (fun P : Int64 → Prop => wp_X7_worn (fun a0 => P a0) s0 x1) := by
  unfold wp_X7_worn
  exact (dt_b1 (F := fun k => wp_X7_isCell k s0 x1) (dt_X7_isCell s0 x1) (fun r_1 => (dt_p (dt_r _) (dt_b1 (F := fun k => wp_X7_wornOf k s0 x1) (dt_X7_wornOf s0 x1) (fun r_4 => (dt_r _))))))
set_option maxHeartbeats 4000000 in
theorem dl_X7_cellsWith_L4 (s0 : Md) {O : Type} {G_post G2_post : Int32 → (O → Prop) → Prop} {G_e36 G2_e36 : Int32 → Int32 → Int32 → (O → Prop) → Prop} (h_post : ∀ v0, dt (G_post v0) (G2_post v0)) (h_e36 : ∀ v0 v1 v2, dt (G_e36 v0 v1 v2) (G2_e36 v0 v1 v2)) : ∀ (n m : Nat) (z1 : Int32) (z2 : Int32) (z3 : Int32), dt (fun P : O → Prop => wp_X7_cellsWith_L4 s0 (fun v0 => G_post v0 P) (fun v0 v1 v2 => G_e36 v0 v1 v2 P) n z1 z2 z3) (fun P : O → Prop => wp_X7_cellsWith_L4 s0 (fun v0 => G2_post v0 P) (fun v0 v1 v2 => G2_e36 v0 v1 v2 P) m z1 z2 z3) := by
  intro n
  induction n with
  | zero => exact fun _ _ _ _ => dt_F
  | succ n4 ih =>
    intro m z1 z2 z3
    have key : ∀ m9 : Nat, dt (fun P : O → Prop => wp_X7_cellsWith_L4 s0 (fun v0 => G_post v0 P) (fun v0 v1 v2 => G_e36 v0 v1 v2 P) (n4 + 1) z1 z2 z3) (fun P : O → Prop => wp_X7_cellsWith_L4 s0 (fun v0 => G2_post v0 P) (fun v0 v1 v2 => G2_e36 v0 v1 v2 P) (m9 + 1) z1 z2 z3) := by
      intro m9
      unfold wp_X7_cellsWith_L4
      exact (dt_b1 (F := fun k => wp_X7_cells k s0) (dt_X7_cells s0) (fun r_1 => (dt_p (h_e36 z1 z2 z3) (dt_b1 (F := fun k => wp_X7_of k s0 z3 (0 : Int32)) (dt_X7_of s0 z3 (0 : Int32)) (fun r_4 => (dt_n (ih m9 z1 (z2 + 0) (z3 + 1)) (ih m9 z1 (z2 + 1) (z3 + 1))))))))
    cases m with
    | zero => exact dt_0 (key 0)
    | succ m9 => exact key m9
set_option maxHeartbeats 4000000 in
theorem dt_X7_cellsWith (s0 : Md) (x1 : Int32) : dt (fun P : Int32 → Prop => wp_X7_cellsWith (fun a0 => P a0) s0 x1) (fun P : Int32 → Prop => wp_X7_cellsWith (fun a0 => P a0) s0 x1) := by
  unfold wp_X7_cellsWith
  exact (dt_x (fun n4 m_n4 => (dl_X7_cellsWith_L4 s0 (fun v0 => (dt_r _)) (fun z1 z2 z3 => (dt_r _)) n4 m_n4 x1 0 0)))
set_option maxHeartbeats 4000000 in
theorem dl_X7_manyWith_L5 (s0 : Md) {O : Type} {G_post G2_post : Int32 → (O → Prop) → Prop} {G_e40 G2_e40 : Int32 → Int32 → Int32 → Int32 → (O → Prop) → Prop} (h_post : ∀ v0, dt (G_post v0) (G2_post v0)) (h_e40 : ∀ v0 v1 v2 v3, dt (G_e40 v0 v1 v2 v3) (G2_e40 v0 v1 v2 v3)) : ∀ (n m : Nat) (z1 : Int32) (z2 : Int32) (z3 : Int32) (z4 : Int32), dt (fun P : O → Prop => wp_X7_manyWith_L5 s0 (fun v0 => G_post v0 P) (fun v0 v1 v2 v3 => G_e40 v0 v1 v2 v3 P) n z1 z2 z3 z4) (fun P : O → Prop => wp_X7_manyWith_L5 s0 (fun v0 => G2_post v0 P) (fun v0 v1 v2 v3 => G2_e40 v0 v1 v2 v3 P) m z1 z2 z3 z4) := by
  intro n
  induction n with
  | zero => exact fun _ _ _ _ _ => dt_F
  | succ n5 ih =>
    intro m z1 z2 z3 z4
    have key : ∀ m9 : Nat, dt (fun P : O → Prop => wp_X7_manyWith_L5 s0 (fun v0 => G_post v0 P) (fun v0 v1 v2 v3 => G_e40 v0 v1 v2 v3 P) (n5 + 1) z1 z2 z3 z4) (fun P : O → Prop => wp_X7_manyWith_L5 s0 (fun v0 => G2_post v0 P) (fun v0 v1 v2 v3 => G2_e40 v0 v1 v2 v3 P) (m9 + 1) z1 z2 z3 z4) := by
      intro m9
      unfold wp_X7_manyWith_L5
      exact (dt_b1 (F := fun k => wp_X7_flapsOf k s0 z1) (dt_X7_flapsOf s0 z1) (fun r_1 => (dt_p (h_e40 z1 z2 z3 z4) (dt_b1 (F := fun k => wp_X7_signOf k s0 z1 z4) (dt_X7_signOf s0 z1 z4) (fun r_4 => (dt_n (ih m9 z1 z2 (z3 + 0) (z4 + 1)) (ih m9 z1 z2 (z3 + 1) (z4 + 1))))))))
    cases m with
    | zero => exact dt_0 (key 0)
    | succ m9 => exact key m9
set_option maxHeartbeats 4000000 in
theorem dt_X7_manyWith (s0 : Md) (x1 : Int32) (x2 : Int32) : dt (fun P : Int32 → Prop => wp_X7_manyWith (fun a0 => P a0) s0 x1 x2) (fun P : Int32 → Prop => wp_X7_manyWith (fun a0 => P a0) s0 x1 x2) := by
  unfold wp_X7_manyWith
  exact (dt_x (fun n5 m_n5 => (dl_X7_manyWith_L5 s0 (fun v0 => (dt_r _)) (fun z1 z2 z3 z4 => (dt_r _)) n5 m_n5 x1 x2 0 0)))
set_option maxHeartbeats 4000000 in
theorem dl_X7_signsOf_L6 (s0 : Md) {O : Type} {G_post G2_post : Int32 → (O → Prop) → Prop} {G_e57 G2_e57 : Int32 → Int32 → Int32 → Int32 → (O → Prop) → Prop} (h_post : ∀ v0, dt (G_post v0) (G2_post v0)) (h_e57 : ∀ v0 v1 v2 v3, dt (G_e57 v0 v1 v2 v3) (G2_e57 v0 v1 v2 v3)) : ∀ (n m : Nat) (z1 : Int32) (z2 : Int32) (z3 : Int32) (z4 : Int32), dt (fun P : O → Prop => wp_X7_signsOf_L6 s0 (fun v0 => G_post v0 P) (fun v0 v1 v2 v3 => G_e57 v0 v1 v2 v3 P) n z1 z2 z3 z4) (fun P : O → Prop => wp_X7_signsOf_L6 s0 (fun v0 => G2_post v0 P) (fun v0 v1 v2 v3 => G2_e57 v0 v1 v2 v3 P) m z1 z2 z3 z4) := by
  intro n
  induction n with
  | zero => exact fun _ _ _ _ _ => dt_F
  | succ n6 ih =>
    intro m z1 z2 z3 z4
    have key : ∀ m9 : Nat, dt (fun P : O → Prop => wp_X7_signsOf_L6 s0 (fun v0 => G_post v0 P) (fun v0 v1 v2 v3 => G_e57 v0 v1 v2 v3 P) (n6 + 1) z1 z2 z3 z4) (fun P : O → Prop => wp_X7_signsOf_L6 s0 (fun v0 => G2_post v0 P) (fun v0 v1 v2 v3 => G2_e57 v0 v1 v2 v3 P) (m9 + 1) z1 z2 z3 z4) := by
      intro m9
      unfold wp_X7_signsOf_L6
      exact (dt_p (h_e57 z1 z2 z3 z4) (dt_b1 (F := fun k => wp_X7_manyWith k s0 z1 z4) (dt_X7_manyWith s0 z1 z4) (fun r_2 => (dt_n (dt_p (ih m9 z1 z2 z3 (z4 + 1)) (ih m9 z1 z2 r_2 (z4 + 1))) (dt_p (ih m9 z1 z2 (z3 + 0) (z4 + 1)) (ih m9 z1 z2 (z3 + 1) (z4 + 1)))))))
    cases m with
    | zero => exact dt_0 (key 0)
    | succ m9 => exact key m9
set_option maxHeartbeats 4000000 in
theorem dt_X7_signsOf (s0 : Md) (x1 : Int32) (x2 : Int32) : dt (fun P : Int32 → Prop => wp_X7_signsOf (fun a0 => P a0) s0 x1 x2) (fun P : Int32 → Prop => wp_X7_signsOf (fun a0 => P a0) s0 x1 x2) := by
  unfold wp_X7_signsOf
  exact (dt_x (fun n6 m_n6 => (dl_X7_signsOf_L6 s0 (fun v0 => (dt_r _)) (fun z1 z2 z3 z4 => (dt_r _)) n6 m_n6 x1 x2 0 32)))
set_option maxHeartbeats 4000000 in
theorem dt_X7_drum (s0 : Md) (x1 : Int32) (x2 : Int32) : dt (fun P : Int32 → Prop => wp_X7_drum (fun a0 => P a0) s0 x1 x2) (fun P : Int32 → Prop => wp_X7_drum (fun a0 => P a0) s0 x1 x2) := by
  unfold wp_X7_drum
  exact (dt_b1 (F := fun k => wp_X7_isDrum k s0 x1) (dt_X7_isDrum s0 x1) (fun r_1 => (dt_n (dt_p (dt_b1 (F := fun k => wp_X7_currentOf k s0 x1) (dt_X7_currentOf s0 x1) (fun r_5 => (dt_r _))) (dt_p (dt_b1 (F := fun k => wp_X7_flapsOf k s0 x1) (dt_X7_flapsOf s0 x1) (fun r_8 => (dt_r _))) (dt_p (dt_b1 (F := fun k => wp_X7_cellsWith k s0 x1) (dt_X7_cellsWith s0 x1) (fun r_11 => (dt_r _))) (dt_p (dt_b1 (F := fun k => wp_X7_signsOf k s0 x1 (0 : Int32)) (dt_X7_signsOf s0 x1 (0 : Int32)) (fun r_14 => (dt_r _))) (dt_p (dt_b1 (F := fun k => wp_X7_signsOf k s0 x1 (1 : Int32)) (dt_X7_signsOf s0 x1 (1 : Int32)) (fun r_17 => (dt_r _))) (dt_r _)))))) (dt_r _))))
set_option maxHeartbeats 4000000 in
theorem dt_X7_sign (s0 : Md) (x1 : Int32) (x2 : Int32) : dt (fun P : Int32 → Prop => wp_X7_sign (fun a0 => P a0) s0 x1 x2) (fun P : Int32 → Prop => wp_X7_sign (fun a0 => P a0) s0 x1 x2) := by
  unfold wp_X7_sign
  exact (dt_b1 (F := fun k => wp_X7_isDrum k s0 x1) (dt_X7_isDrum s0 x1) (fun r_1 => (dt_p (dt_r _) (dt_b1 (F := fun k => wp_X7_flapsOf k s0 x1) (dt_X7_flapsOf s0 x1) (fun r_4 => (dt_b1 (F := fun k => wp_X7_in k (Int32.toInt64 x2) (0 : Int64) (Int32.toInt64 (r_4 - 1))) (dt_X7_in (Int32.toInt64 x2) (0 : Int64) (Int32.toInt64 (r_4 - 1))) (fun r_6 => (dt_p (dt_r _) (dt_b1 (F := fun k => wp_X7_signOf k s0 x1 x2) (dt_X7_signOf s0 x1 x2) (fun r_9 => (dt_r _)))))))))))
set_option maxHeartbeats 4000000 in
theorem dt_X7_signAt (s0 : Md) (x1 : Int32) (x2 : Int32) : dt (fun P : Int32 → Prop => wp_X7_signAt (fun a0 => P a0) s0 x1 x2) (fun P : Int32 → Prop => wp_X7_signAt (fun a0 => P a0) s0 x1 x2) := by
  unfold wp_X7_signAt
  exact (dt_b1 (F := fun k => wp_X7_of k s0 x1 (0 : Int32)) (dt_X7_of s0 x1 (0 : Int32)) (fun r_1 => (dt_b1 (F := fun k => wp_X7_of k s0 x1 (1 + x2)) (dt_X7_of s0 x1 (1 + x2)) (fun r_3 => (dt_b1 (F := fun k => wp_X7_signOf k s0 r_1 r_3) (dt_X7_signOf s0 r_1 r_3) (fun r_5 => (dt_r _)))))))
set_option maxHeartbeats 4000000 in
theorem dt_X7_at (s0 : Md) (x1 : Int32) (x2 : Int32) (x3 : Int32) : dt (fun P : Int32 → Prop => wp_X7_at (fun a0 => P a0) s0 x1 x2 x3) (fun P : Int32 → Prop => wp_X7_at (fun a0 => P a0) s0 x1 x2 x3) := by
  unfold wp_X7_at
  exact (dt_b1 (F := fun k => wp_X7_isRow k s0 x1) (dt_X7_isRow s0 x1) (fun r_1 => (dt_p (dt_r _) (dt_b1 (F := fun k => wp_X7_wide k s0) (dt_X7_wide s0) (fun r_4 => (dt_b1 (F := fun k => wp_X7_in k (Int32.toInt64 x2) (0 : Int64) (Int32.toInt64 (r_4 - 1))) (dt_X7_in (Int32.toInt64 x2) (0 : Int64) (Int32.toInt64 (r_4 - 1))) (fun r_6 => (dt_p (dt_r _) (dt_b1 (F := fun k => wp_X7_in k (Int32.toInt64 x3) (0 : Int64) (2 : Int64)) (dt_X7_in (Int32.toInt64 x3) (0 : Int64) (2 : Int64)) (fun r_9 => (dt_p (dt_r _) (dt_b1 (F := fun k => wp_X7_wide k s0) (dt_X7_wide s0) (fun r_12 => (dt_b1 (F := fun k => wp_X7_signAt k s0 ((r_12 * x1) + x2) x3) (dt_X7_signAt s0 ((r_12 * x1) + x2) x3) (fun r_14 => (dt_r _))))))))))))))))
set_option maxHeartbeats 4000000 in
theorem dt_X7_isOther (s0 : Md) (x1 : Int32) : dt (fun P : Int32 → Prop => wp_X7_isOther (fun a0 => P a0) s0 x1) (fun P : Int32 → Prop => wp_X7_isOther (fun a0 => P a0) s0 x1) := by
  unfold wp_X7_isOther
  exact (dt_b1 (F := fun k => wp_X7_signAt k s0 x1 (0 : Int32)) (dt_X7_signAt s0 x1 (0 : Int32)) (fun r_1 => (dt_b1 (F := fun k => wp_X7_signAt k s0 x1 (2 : Int32)) (dt_X7_signAt s0 x1 (2 : Int32)) (fun r_3 => (dt_p (dt_r _) (dt_r _))))))
set_option maxHeartbeats 4000000 in
theorem dt_X7_isSuch (s0 : Md) (x1 : Int32) (x2 : Int32) : dt (fun P : Int32 → Prop => wp_X7_isSuch (fun a0 => P a0) s0 x1 x2) (fun P : Int32 → Prop => wp_X7_isSuch (fun a0 => P a0) s0 x1 x2) := by
  unfold wp_X7_isSuch
  exact (dt_p (dt_b1 (F := fun k => wp_X7_leftOf k s0 x1) (dt_X7_leftOf s0 x1) (fun r_2 => (dt_p (dt_r _) (dt_r _)))) (dt_p (dt_b1 (F := fun k => wp_X7_of k s0 x1 (1 : Int32)) (dt_X7_of s0 x1 (1 : Int32)) (fun r_6 => (dt_b1 (F := fun k => wp_X7_of k s0 x1 (2 : Int32)) (dt_X7_of s0 x1 (2 : Int32)) (fun r_8 => (dt_p (dt_r _) (dt_r _)))))) (dt_p (dt_b1 (F := fun k => wp_X7_isOther k s0 x1) (dt_X7_isOther s0 x1) (fun r_12 => (dt_c (dt_r _)))) (dt_p (dt_b1 (F := fun k => wp_X7_isIn k s0.2.1 x1) (dt_X7_isIn s0.2.1 x1) (fun r_16 => (dt_c (dt_r _)))) (dt_b1 (F := fun k => wp_X7_current k s0 x1) (dt_X7_current s0 x1) (fun r_19 => (dt_p (dt_r _) (dt_r _))))))))
set_option maxHeartbeats 4000000 in
theorem dl_X7_which_L32  {O : Type} {G_post G2_post : Int64 → Md → (O → Prop) → Prop} {G_e64 G2_e64 : Md → Int32 → Int64 → Int32 → (O → Prop) → Prop} (h_post : ∀ v0 v1, dt (G_post v0 v1) (G2_post v0 v1)) (h_e64 : ∀ v0 v1 v2 v3, dt (G_e64 v0 v1 v2 v3) (G2_e64 v0 v1 v2 v3)) : ∀ (n m : Nat) (t0 : Md) (z1 : Int32) (w2 : Int64) (z4 : Int32), dt (fun P : O → Prop => wp_X7_which_L32 (fun v0 v1 => G_post v0 v1 P) (fun v0 v1 v2 v3 => G_e64 v0 v1 v2 v3 P) n t0 z1 w2 z4) (fun P : O → Prop => wp_X7_which_L32 (fun v0 v1 => G2_post v0 v1 P) (fun v0 v1 v2 v3 => G2_e64 v0 v1 v2 v3 P) m t0 z1 w2 z4) := by
  intro n
  induction n with
  | zero => exact fun _ _ _ _ _ => dt_F
  | succ n32 ih =>
    intro m t0 z1 w2 z4
    have key : ∀ m9 : Nat, dt (fun P : O → Prop => wp_X7_which_L32 (fun v0 v1 => G_post v0 v1 P) (fun v0 v1 v2 v3 => G_e64 v0 v1 v2 v3 P) (n32 + 1) t0 z1 w2 z4) (fun P : O → Prop => wp_X7_which_L32 (fun v0 v1 => G2_post v0 v1 P) (fun v0 v1 v2 v3 => G2_e64 v0 v1 v2 v3 P) (m9 + 1) t0 z1 w2 z4) := by
      intro m9
      unfold wp_X7_which_L32
      exact (dt_b1 (F := fun k => wp_X7_cells k t0) (dt_X7_cells t0) (fun r_9 => (dt_p (h_e64 t0 z1 w2 z4) (dt_b1 (F := fun k => wp_X7_isSuch k t0 z4 z1) (dt_X7_isSuch t0 z4 z1) (fun r_12 => (dt_p (ih m9 t0 z1 w2 (z4 + 1)) (ih m9 t0 z1 (w2 ||| ((1 : Int64) <<< ((Int32.toInt64 z4) &&& 63))) (z4 + 1))))))))
    cases m with
    | zero => exact dt_0 (key 0)
    | succ m9 => exact key m9
set_option maxHeartbeats 4000000 in
theorem dt_X7_which (s0 : Md) (x1 : Int32) : dt (fun P : (Int64 × Md) → Prop => wp_X7_which (fun a0 a1 => P (a0, a1)) s0 x1) (fun P : (Int64 × Md) → Prop => wp_X7_which (fun a0 a1 => P (a0, a1)) s0 x1) := by
  unfold wp_X7_which
  exact (dt_b1 (F := fun k => wp_X7_isBoard k s0) (dt_X7_isBoard s0) (fun r_1 => (dt_p (dt_r _) (dt_b1 (F := fun k => wp_X7_in k (Int32.toInt64 x1) (0 : Int64) (4 : Int64)) (dt_X7_in (Int32.toInt64 x1) (0 : Int64) (4 : Int64)) (fun r_4 => (dt_n (dt_b1 (F := fun k => wp_X7_findsTurning k s0) (dt_X7_findsTurning s0) (fun u_8 => (dt_x (fun n32 m_n32 => (dl_X7_which_L32  (fun v0 v1 => (dt_r _)) (fun t0 z1 w2 z4 => (dt_r _)) n32 m_n32 u_8 x1 0 0))))) (dt_r _)))))))
set_option maxHeartbeats 4000000 in
theorem dl_X7_left_L31 (s0 : Md) {O : Type} {G_post G2_post : Int32 → (O → Prop) → Prop} {G_e90 G2_e90 : Int32 → Int32 → Int32 → Int32 → Int32 → (O → Prop) → Prop} (h_post : ∀ v0, dt (G_post v0) (G2_post v0)) (h_e90 : ∀ v0 v1 v2 v3 v4, dt (G_e90 v0 v1 v2 v3 v4) (G2_e90 v0 v1 v2 v3 v4)) : ∀ (n m : Nat) (z1 : Int32) (z2 : Int32) (z3 : Int32) (z4 : Int32) (z5 : Int32), dt (fun P : O → Prop => wp_X7_left_L31 s0 (fun v0 => G_post v0 P) (fun v0 v1 v2 v3 v4 => G_e90 v0 v1 v2 v3 v4 P) n z1 z2 z3 z4 z5) (fun P : O → Prop => wp_X7_left_L31 s0 (fun v0 => G2_post v0 P) (fun v0 v1 v2 v3 v4 => G2_e90 v0 v1 v2 v3 v4 P) m z1 z2 z3 z4 z5) := by
  intro n
  induction n with
  | zero => exact fun _ _ _ _ _ _ => dt_F
  | succ n31 ih =>
    intro m z1 z2 z3 z4 z5
    have key : ∀ m9 : Nat, dt (fun P : O → Prop => wp_X7_left_L31 s0 (fun v0 => G_post v0 P) (fun v0 v1 v2 v3 v4 => G_e90 v0 v1 v2 v3 v4 P) (n31 + 1) z1 z2 z3 z4 z5) (fun P : O → Prop => wp_X7_left_L31 s0 (fun v0 => G2_post v0 P) (fun v0 v1 v2 v3 v4 => G2_e90 v0 v1 v2 v3 v4 P) (m9 + 1) z1 z2 z3 z4 z5) := by
      intro m9
      unfold wp_X7_left_L31
      exact (dt_b1 (F := fun k => wp_X7_cells k s0) (dt_X7_cells s0) (fun r_7 => (dt_p (h_e90 z1 z2 z3 z4 z5) (dt_b1 (F := fun k => wp_X7_leftOf k s0 z5) (dt_X7_leftOf s0 z5) (fun r_10 => (dt_b1 (F := fun k => wp_X7_leftOf k s0 z5) (dt_X7_leftOf s0 z5) (fun r_12 => (dt_b1 (F := fun k => wp_X7_current k s0 z5) (dt_X7_current s0 z5) (fun r_14 => (dt_b1 (F := fun k => wp_X7_leftOf k s0 z5) (dt_X7_leftOf s0 z5) (fun r_16 => (dt_p (ih m9 z1 (z2 + r_10) z3 (z4 + (r_12 * r_14)) (z5 + 1)) (dt_b1 (F := fun k => wp_X7_leftOf k s0 z5) (dt_X7_leftOf s0 z5) (fun r_19 => (ih m9 z1 (z2 + r_10) r_19 (z4 + (r_12 * r_14)) (z5 + 1))))))))))))))))
    cases m with
    | zero => exact dt_0 (key 0)
    | succ m9 => exact key m9
set_option maxHeartbeats 4000000 in
theorem dt_X7_left (s0 : Md) (x1 : Int32) : dt (fun P : Int32 → Prop => wp_X7_left (fun a0 => P a0) s0 x1) (fun P : Int32 → Prop => wp_X7_left (fun a0 => P a0) s0 x1) := by
  unfold wp_X7_left
  exact (dt_b1 (F := fun k => wp_X7_isBoard k s0) (dt_X7_isBoard s0) (fun r_1 => (dt_p (dt_r _) (dt_b1 (F := fun k => wp_X7_in k (Int32.toInt64 x1) (0 : Int64) (3 : Int64)) (dt_X7_in (Int32.toInt64 x1) (0 : Int64) (3 : Int64)) (fun r_4 => (dt_n (dt_x (fun n31 m_n31 => (dl_X7_left_L31 s0 (fun v0 => (dt_r _)) (fun z1 z2 z3 z4 z5 => (dt_c (dt_n (dt_n (dt_n (dt_p (dt_r _) (dt_r _)) (dt_r _)) (dt_r _)) (dt_r _)))) n31 m_n31 x1 0 0 0 0))) (dt_r _)))))))
set_option maxHeartbeats 4000000 in
theorem dl_X7_putsAside_L2  {O : Type} {G_post G2_post : Md → (O → Prop) → Prop} {G_e27 G2_e27 : Md → Int32 → (O → Prop) → Prop} (h_post : ∀ v0, dt (G_post v0) (G2_post v0)) (h_e27 : ∀ v0 v1, dt (G_e27 v0 v1) (G2_e27 v0 v1)) : ∀ (n m : Nat) (t0 : Md) (z1 : Int32), dt (fun P : O → Prop => wp_X7_putsAside_L2 (fun v0 => G_post v0 P) (fun v0 v1 => G_e27 v0 v1 P) n t0 z1) (fun P : O → Prop => wp_X7_putsAside_L2 (fun v0 => G2_post v0 P) (fun v0 v1 => G2_e27 v0 v1 P) m t0 z1) := by
  intro n
  induction n with
  | zero => exact fun _ _ _ => dt_F
  | succ n2 ih =>
    intro m t0 z1
    have key : ∀ m9 : Nat, dt (fun P : O → Prop => wp_X7_putsAside_L2 (fun v0 => G_post v0 P) (fun v0 v1 => G_e27 v0 v1 P) (n2 + 1) t0 z1) (fun P : O → Prop => wp_X7_putsAside_L2 (fun v0 => G2_post v0 P) (fun v0 v1 => G2_e27 v0 v1 P) (m9 + 1) t0 z1) := by
      intro m9
      unfold wp_X7_putsAside_L2
      exact (dt_p (h_e27 t0 z1) (dt_c (dt_c (ih m9 (t0.1, t0.2.1, (va_up t0.2.2.1 3 (vp_updL (t0.2.2.1 3) (Int32.toNatClampNeg z1) ((t0.2.2.1 0) (Int32.toNatClampNeg z1)))), t0.2.2.2) (z1 + 1)))))
    cases m with
    | zero => exact dt_0 (key 0)
    | succ m9 => exact key m9
set_option maxHeartbeats 4000000 in
theorem dt_X7_putsAside (s0 : Md) : dt (fun P : Md → Prop => wp_X7_putsAside (fun a0 => P a0) s0) (fun P : Md → Prop => wp_X7_putsAside (fun a0 => P a0) s0) := by
  unfold wp_X7_putsAside
  exact (dt_x (fun n2 m_n2 => (dl_X7_putsAside_L2  (fun v0 => (dt_r _)) (fun t0 z1 => (dt_r _)) n2 m_n2 s0 0)))
set_option maxHeartbeats 4000000 in
theorem dl_X7_takesBack_L2  {O : Type} {G_post G2_post : Md → (O → Prop) → Prop} {G_e27 G2_e27 : Md → Int32 → (O → Prop) → Prop} (h_post : ∀ v0, dt (G_post v0) (G2_post v0)) (h_e27 : ∀ v0 v1, dt (G_e27 v0 v1) (G2_e27 v0 v1)) : ∀ (n m : Nat) (t0 : Md) (z1 : Int32), dt (fun P : O → Prop => wp_X7_takesBack_L2 (fun v0 => G_post v0 P) (fun v0 v1 => G_e27 v0 v1 P) n t0 z1) (fun P : O → Prop => wp_X7_takesBack_L2 (fun v0 => G2_post v0 P) (fun v0 v1 => G2_e27 v0 v1 P) m t0 z1) := by
  intro n
  induction n with
  | zero => exact fun _ _ _ => dt_F
  | succ n2 ih =>
    intro m t0 z1
    have key : ∀ m9 : Nat, dt (fun P : O → Prop => wp_X7_takesBack_L2 (fun v0 => G_post v0 P) (fun v0 v1 => G_e27 v0 v1 P) (n2 + 1) t0 z1) (fun P : O → Prop => wp_X7_takesBack_L2 (fun v0 => G2_post v0 P) (fun v0 v1 => G2_e27 v0 v1 P) (m9 + 1) t0 z1) := by
      intro m9
      unfold wp_X7_takesBack_L2
      exact (dt_p (h_e27 t0 z1) (dt_c (dt_c (ih m9 (t0.1, t0.2.1, (va_up t0.2.2.1 0 (vp_updL (t0.2.2.1 0) (Int32.toNatClampNeg z1) ((t0.2.2.1 3) (Int32.toNatClampNeg z1)))), t0.2.2.2) (z1 + 1)))))
    cases m with
    | zero => exact dt_0 (key 0)
    | succ m9 => exact key m9
set_option maxHeartbeats 4000000 in
theorem dt_X7_takesBack (s0 : Md) : dt (fun P : Md → Prop => wp_X7_takesBack (fun a0 => P a0) s0) (fun P : Md → Prop => wp_X7_takesBack (fun a0 => P a0) s0) := by
  unfold wp_X7_takesBack
  exact (dt_x (fun n2 m_n2 => (dl_X7_takesBack_L2  (fun v0 => (dt_r _)) (fun t0 z1 => (dt_r _)) n2 m_n2 s0 0)))
set_option maxHeartbeats 4000000 in
theorem dl_X7_others_L4 (s0 : Md) {O : Type} {G_post G2_post : Int32 → (O → Prop) → Prop} {G_e34 G2_e34 : Int32 → Int32 → (O → Prop) → Prop} (h_post : ∀ v0, dt (G_post v0) (G2_post v0)) (h_e34 : ∀ v0 v1, dt (G_e34 v0 v1) (G2_e34 v0 v1)) : ∀ (n m : Nat) (z1 : Int32) (z2 : Int32), dt (fun P : O → Prop => wp_X7_others_L4 s0 (fun v0 => G_post v0 P) (fun v0 v1 => G_e34 v0 v1 P) n z1 z2) (fun P : O → Prop => wp_X7_others_L4 s0 (fun v0 => G2_post v0 P) (fun v0 v1 => G2_e34 v0 v1 P) m z1 z2) := by
  intro n
  induction n with
  | zero => exact fun _ _ _ => dt_F
  | succ n4 ih =>
    intro m z1 z2
    have key : ∀ m9 : Nat, dt (fun P : O → Prop => wp_X7_others_L4 s0 (fun v0 => G_post v0 P) (fun v0 v1 => G_e34 v0 v1 P) (n4 + 1) z1 z2) (fun P : O → Prop => wp_X7_others_L4 s0 (fun v0 => G2_post v0 P) (fun v0 v1 => G2_e34 v0 v1 P) (m9 + 1) z1 z2) := by
      intro m9
      unfold wp_X7_others_L4
      exact (dt_b1 (F := fun k => wp_X7_cells k s0) (dt_X7_cells s0) (fun r_1 => (dt_p (h_e34 z1 z2) (dt_b1 (F := fun k => wp_X7_isOther k s0 z2) (dt_X7_isOther s0 z2) (fun r_4 => (dt_p (ih m9 (z1 + 0) (z2 + 1)) (ih m9 (z1 + 1) (z2 + 1))))))))
    cases m with
    | zero => exact dt_0 (key 0)
    | succ m9 => exact key m9
set_option maxHeartbeats 4000000 in
theorem dt_X7_others (s0 : Md) : dt (fun P : Int32 → Prop => wp_X7_others (fun a0 => P a0) s0) (fun P : Int32 → Prop => wp_X7_others (fun a0 => P a0) s0) := by
  unfold wp_X7_others
  exact (dt_x (fun n4 m_n4 => (dl_X7_others_L4 s0 (fun v0 => (dt_r _)) (fun z1 z2 => (dt_r _)) n4 m_n4 0 0)))
set_option maxHeartbeats 4000000 in
theorem dl_X7_when_L32  {O : Type} {G_post G2_post : Int32 → Md → (O → Prop) → Prop} {G_e72 G2_e72 : Md → Int32 → Int32 → Int32 → Int32 → (O → Prop) → Prop} (h_post : ∀ v0 v1, dt (G_post v0 v1) (G2_post v0 v1)) (h_e72 : ∀ v0 v1 v2 v3 v4, dt (G_e72 v0 v1 v2 v3 v4) (G2_e72 v0 v1 v2 v3 v4)) : ∀ (n m : Nat) (t0 : Md) (z1 : Int32) (z2 : Int32) (z3 : Int32) (z4 : Int32), dt (fun P : O → Prop => wp_X7_when_L32 (fun v0 v1 => G_post v0 v1 P) (fun v0 v1 v2 v3 v4 => G_e72 v0 v1 v2 v3 v4 P) n t0 z1 z2 z3 z4) (fun P : O → Prop => wp_X7_when_L32 (fun v0 v1 => G2_post v0 v1 P) (fun v0 v1 v2 v3 v4 => G2_e72 v0 v1 v2 v3 v4 P) m t0 z1 z2 z3 z4) := by
  intro n
  induction n with
  | zero => exact fun _ _ _ _ _ _ => dt_F
  | succ n32 ih =>
    intro m t0 z1 z2 z3 z4
    have key : ∀ m9 : Nat, dt (fun P : O → Prop => wp_X7_when_L32 (fun v0 v1 => G_post v0 v1 P) (fun v0 v1 v2 v3 v4 => G_e72 v0 v1 v2 v3 v4 P) (n32 + 1) t0 z1 z2 z3 z4) (fun P : O → Prop => wp_X7_when_L32 (fun v0 v1 => G2_post v0 v1 P) (fun v0 v1 v2 v3 v4 => G2_e72 v0 v1 v2 v3 v4 P) (m9 + 1) t0 z1 z2 z3 z4) := by
      intro m9
      unfold wp_X7_when_L32
      exact (dt_b2 (F := fun k => wp_X7_ticks k t0) (dt_X7_ticks t0) (fun r_9 u_10 => (dt_p (h_e72 u_10 z1 z2 z3 z4) (dt_p (ih m9 u_10 z1 (z2 + 1) (z3 + ((u_10.1 1) * (u_10.1 1))) z4) (ih m9 u_10 z1 (z2 + 1) (z3 + ((u_10.1 1) * (u_10.1 1))) (u_10.1 2))))))
    cases m with
    | zero => exact dt_0 (key 0)
    | succ m9 => exact key m9
set_option maxHeartbeats 4000000 in
theorem dt_X7_when (s0 : Md) (x1 : Int32) : dt (fun P : (Int32 × Md) → Prop => wp_X7_when (fun a0 a1 => P (a0, a1)) s0 x1) (fun P : (Int32 × Md) → Prop => wp_X7_when (fun a0 a1 => P (a0, a1)) s0 x1) := by
  unfold wp_X7_when
  exact (dt_b1 (F := fun k => wp_X7_isBoard k s0) (dt_X7_isBoard s0) (fun r_1 => (dt_p (dt_r _) (dt_b1 (F := fun k => wp_X7_in k (Int32.toInt64 x1) (0 : Int64) (5 : Int64)) (dt_X7_in (Int32.toInt64 x1) (0 : Int64) (5 : Int64)) (fun r_4 => (dt_n (dt_b1 (F := fun k => wp_X7_putsAside k s0) (dt_X7_putsAside s0) (fun u_8 => (dt_x (fun n32 m_n32 => (dl_X7_when_L32  (fun v0 v1 => (dt_r _)) (fun t0 z1 z2 z3 z4 => (dt_b1 (F := fun k => wp_X7_others k t0) (dt_X7_others t0) (fun r_13 => (dt_b1 (F := fun k => wp_X7_takesBack k t0) (dt_X7_takesBack t0) (fun u_16 => (dt_p (dt_r _) (dt_p (dt_r _) (dt_p (dt_r _) (dt_p (dt_r _) (dt_p (dt_r _) (dt_r _))))))))))) n32 m_n32 u_8 x1 0 0 0))))) (dt_r _)))))))
set_option maxHeartbeats 4000000 in
theorem dt_X7_total (s0 : Md) (x1 : Int32) : dt (fun P : Int32 → Prop => wp_X7_total (fun a0 => P a0) s0 x1) (fun P : Int32 → Prop => wp_X7_total (fun a0 => P a0) s0 x1) := by
  unfold wp_X7_total
  exact (dt_b1 (F := fun k => wp_X7_isBoard k s0) (dt_X7_isBoard s0) (fun r_1 => (dt_p (dt_r _) (dt_b1 (F := fun k => wp_X7_in k (Int32.toInt64 x1) (0 : Int64) (3 : Int64)) (dt_X7_in (Int32.toInt64 x1) (0 : Int64) (3 : Int64)) (fun r_4 => (dt_p (dt_r _) (dt_c (dt_r _))))))))
set_option maxHeartbeats 4000000 in
theorem dl_X7_rests_L16  {O : Type} {G_post G2_post : Int32 → Md → (O → Prop) → Prop} {G_e44 G2_e44 : Md → Int32 → Int32 → (O → Prop) → Prop} (h_post : ∀ v0 v1, dt (G_post v0 v1) (G2_post v0 v1)) (h_e44 : ∀ v0 v1 v2, dt (G_e44 v0 v1 v2) (G2_e44 v0 v1 v2)) : ∀ (n m : Nat) (t0 : Md) (z1 : Int32) (z2 : Int32), dt (fun P : O → Prop => wp_X7_rests_L16 (fun v0 v1 => G_post v0 v1 P) (fun v0 v1 v2 => G_e44 v0 v1 v2 P) n t0 z1 z2) (fun P : O → Prop => wp_X7_rests_L16 (fun v0 v1 => G2_post v0 v1 P) (fun v0 v1 v2 => G2_e44 v0 v1 v2 P) m t0 z1 z2) := by
  intro n
  induction n with
  | zero => exact fun _ _ _ _ => dt_F
  | succ n16 ih =>
    intro m t0 z1 z2
    have key : ∀ m9 : Nat, dt (fun P : O → Prop => wp_X7_rests_L16 (fun v0 v1 => G_post v0 v1 P) (fun v0 v1 v2 => G_e44 v0 v1 v2 P) (n16 + 1) t0 z1 z2) (fun P : O → Prop => wp_X7_rests_L16 (fun v0 v1 => G2_post v0 v1 P) (fun v0 v1 v2 => G2_e44 v0 v1 v2 P) (m9 + 1) t0 z1 z2) := by
      intro m9
      unfold wp_X7_rests_L16
      exact (dt_b1 (F := fun k => wp_X7_leftOf k t0 z1) (dt_X7_leftOf t0 z1) (fun r_6 => (dt_p (h_e44 t0 z1 z2) (dt_p (h_e44 t0 z1 z2) (dt_b2 (F := fun k => wp_X7_ticks k t0) (dt_X7_ticks t0) (fun r_10 u_11 => (dt_p (h_e44 u_11 z1 z2) (ih m9 u_11 z1 (z2 + 1)))))))))
    cases m with
    | zero => exact dt_0 (key 0)
    | succ m9 => exact key m9
set_option maxHeartbeats 4000000 in
theorem dt_X7_rests (s0 : Md) (x1 : Int32) : dt (fun P : (Int32 × Md) → Prop => wp_X7_rests (fun a0 a1 => P (a0, a1)) s0 x1) (fun P : (Int32 × Md) → Prop => wp_X7_rests (fun a0 a1 => P (a0, a1)) s0 x1) := by
  unfold wp_X7_rests
  exact (dt_b1 (F := fun k => wp_X7_isCell k s0 x1) (dt_X7_isCell s0 x1) (fun r_1 => (dt_n (dt_b1 (F := fun k => wp_X7_putsAside k s0) (dt_X7_putsAside s0) (fun u_5 => (dt_x (fun n16 m_n16 => (dl_X7_rests_L16  (fun v0 v1 => (dt_r _)) (fun t0 z1 z2 => (dt_b1 (F := fun k => wp_X7_leftOf k t0 z1) (dt_X7_leftOf t0 z1) (fun r_13 => (dt_p (dt_b1 (F := fun k => wp_X7_takesBack k t0) (dt_X7_takesBack t0) (fun u_17 => (dt_r _))) (dt_p (dt_b1 (F := fun k => wp_X7_takesBack k t0) (dt_X7_takesBack t0) (fun u_20 => (dt_r _))) (dt_b1 (F := fun k => wp_X7_takesBack k t0) (dt_X7_takesBack t0) (fun u_22 => (dt_r _)))))))) n16 m_n16 u_5 x1 0))))) (dt_r _))))
set_option maxHeartbeats 4000000 in
theorem dl_X7_unlike_L28 (s0 : Md) {O : Type} {G_post G2_post : Int32 → (O → Prop) → Prop} {G_e82 G2_e82 : Int32 → Int32 → Int32 → Int32 → (O → Prop) → Prop} (h_post : ∀ v0, dt (G_post v0) (G2_post v0)) (h_e82 : ∀ v0 v1 v2 v3, dt (G_e82 v0 v1 v2 v3) (G2_e82 v0 v1 v2 v3)) : ∀ (n m : Nat) (z1 : Int32) (z2 : Int32) (z3 : Int32) (z4 : Int32), dt (fun P : O → Prop => wp_X7_unlike_L28 s0 (fun v0 => G_post v0 P) (fun v0 v1 v2 v3 => G_e82 v0 v1 v2 v3 P) n z1 z2 z3 z4) (fun P : O → Prop => wp_X7_unlike_L28 s0 (fun v0 => G2_post v0 P) (fun v0 v1 v2 v3 => G2_e82 v0 v1 v2 v3 P) m z1 z2 z3 z4) := by
  intro n
  induction n with
  | zero => exact fun _ _ _ _ _ => dt_F
  | succ n28 ih =>
    intro m z1 z2 z3 z4
    have key : ∀ m9 : Nat, dt (fun P : O → Prop => wp_X7_unlike_L28 s0 (fun v0 => G_post v0 P) (fun v0 v1 v2 v3 => G_e82 v0 v1 v2 v3 P) (n28 + 1) z1 z2 z3 z4) (fun P : O → Prop => wp_X7_unlike_L28 s0 (fun v0 => G2_post v0 P) (fun v0 v1 v2 v3 => G2_e82 v0 v1 v2 v3 P) (m9 + 1) z1 z2 z3 z4) := by
      intro m9
      unfold wp_X7_unlike_L28
      exact (dt_b1 (F := fun k => wp_X7_wide k s0) (dt_X7_wide s0) (fun r_8 => (dt_p (h_e82 z1 z2 z3 z4) (dt_b1 (F := fun k => wp_X7_wide k s0) (dt_X7_wide s0) (fun r_11 => (dt_b1 (F := fun k => wp_X7_signAt k s0 ((r_11 * z1) + z4) (2 : Int32)) (dt_X7_signAt s0 ((r_11 * z1) + z4) (2 : Int32)) (fun r_13 => (dt_b1 (F := fun k => wp_X7_wide k s0) (dt_X7_wide s0) (fun r_15 => (dt_b1 (F := fun k => wp_X7_signAt k s0 ((r_15 * z2) + z4) (2 : Int32)) (dt_X7_signAt s0 ((r_15 * z2) + z4) (2 : Int32)) (fun r_17 => (dt_p (ih m9 z1 z2 (z3 + 0) (z4 + 1)) (ih m9 z1 z2 (z3 + 1) (z4 + 1))))))))))))))
    cases m with
    | zero => exact dt_0 (key 0)
    | succ m9 => exact key m9

set_option maxHeartbeats 4000000 in
theorem dt_X7_unlike (s0 : Md) (x1 : Int32) (x2 : Int32) : dt (fun P : Int32 → Prop => wp_X7_unlike (fun a0 => P a0) s0 x1 x2) (fun P : Int32 → Prop => wp_X7_unlike (fun a0 => P a0) s0 x1 x2) := by
  unfold wp_X7_unlike
  exact (dt_b1 (F := fun k => wp_X7_isRow k s0 x1) (dt_X7_isRow s0 x1) (fun r_1 => (dt_p (dt_r _) (dt_b1 (F := fun k => wp_X7_isRow k s0 x2) (dt_X7_isRow s0 x2) (fun r_4 => (dt_p (dt_r _) (dt_n (dt_x (fun n28 m_n28 => (dl_X7_unlike_L28 s0 (fun v0 => (dt_r _)) (fun z1 z2 z3 z4 => (dt_r _)) n28 m_n28 x1 x2 0 0))) (dt_r _))))))))
set_option maxHeartbeats 4000000 in
theorem dl_X7_digest_L17 (s0 : Md) {O : Type} {G_post G2_post : Int64 → (O → Prop) → Prop} {G_e44 G2_e44 : Int64 → Int32 → Int32 → (O → Prop) → Prop} (h_post : ∀ v0, dt (G_post v0) (G2_post v0)) (h_e44 : ∀ v0 v1 v2, dt (G_e44 v0 v1 v2) (G2_e44 v0 v1 v2)) : ∀ (n m : Nat) (w1 : Int64) (z3 : Int32) (z4 : Int32), dt (fun P : O → Prop => wp_X7_digest_L17 s0 (fun v0 => G_post v0 P) (fun v0 v1 v2 => G_e44 v0 v1 v2 P) n w1 z3 z4) (fun P : O → Prop => wp_X7_digest_L17 s0 (fun v0 => G2_post v0 P) (fun v0 v1 v2 => G2_e44 v0 v1 v2 P) m w1 z3 z4) := by
  intro n
  induction n with
  | zero => exact fun _ _ _ _ => dt_F
  | succ n17 ih =>
    intro m w1 z3 z4
    have key : ∀ m9 : Nat, dt (fun P : O → Prop => wp_X7_digest_L17 s0 (fun v0 => G_post v0 P) (fun v0 v1 v2 => G_e44 v0 v1 v2 P) (n17 + 1) w1 z3 z4) (fun P : O → Prop => wp_X7_digest_L17 s0 (fun v0 => G2_post v0 P) (fun v0 v1 v2 => G2_e44 v0 v1 v2 P) (m9 + 1) w1 z3 z4) := by
      intro m9
      unfold wp_X7_digest_L17
      exact (dt_p (h_e44 w1 z3 z4) (dt_b1 (F := fun k => wp_X7_of k s0 z3 z4) (dt_X7_of s0 z3 z4) (fun r_5 => (ih m9 ((31 * w1) + (Int32.toInt64 r_5)) z3 (z4 + 1)))))
    cases m with
    | zero => exact dt_0 (key 0)
    | succ m9 => exact key m9
set_option maxHeartbeats 4000000 in
theorem dl_X7_digest_L6 (s0 : Md) {O : Type} {G_post G2_post : Int64 → (O → Prop) → Prop} {G_e62 G2_e62 : Int64 → Int32 → (O → Prop) → Prop} (h_post : ∀ v0, dt (G_post v0) (G2_post v0)) (h_e62 : ∀ v0 v1, dt (G_e62 v0 v1) (G2_e62 v0 v1)) : ∀ (n m : Nat) (w1 : Int64) (z3 : Int32), dt (fun P : O → Prop => wp_X7_digest_L6 s0 (fun v0 => G_post v0 P) (fun v0 v1 => G_e62 v0 v1 P) n w1 z3) (fun P : O → Prop => wp_X7_digest_L6 s0 (fun v0 => G2_post v0 P) (fun v0 v1 => G2_e62 v0 v1 P) m w1 z3) := by
  intro n
  induction n with
  | zero => exact fun _ _ _ => dt_F
  | succ n6 ih =>
    intro m w1 z3
    have key : ∀ m9 : Nat, dt (fun P : O → Prop => wp_X7_digest_L6 s0 (fun v0 => G_post v0 P) (fun v0 v1 => G_e62 v0 v1 P) (n6 + 1) w1 z3) (fun P : O → Prop => wp_X7_digest_L6 s0 (fun v0 => G2_post v0 P) (fun v0 v1 => G2_e62 v0 v1 P) (m9 + 1) w1 z3) := by
      intro m9
      unfold wp_X7_digest_L6
      exact (dt_b1 (F := fun k => wp_X7_cells k s0) (dt_X7_cells s0) (fun r_1 => (dt_p (h_e62 w1 z3) (dt_x (fun n17 m_n17 => (dl_X7_digest_L17 s0 (fun v0 => (h_post v0)) (fun w1 z3 z4 => (dt_b1 (F := fun k => wp_X7_wornOf k s0 z3) (dt_X7_wornOf s0 z3) (fun r_7 => (ih m9 ((31 * w1) + r_7) (z3 + 1))))) n17 m_n17 w1 z3 0))))))
    cases m with
    | zero => exact dt_0 (key 0)
    | succ m9 => exact key m9
set_option maxHeartbeats 4000000 in
theorem dt_X7_digest (s0 : Md) : dt (fun P : Int64 → Prop => wp_X7_digest (fun a0 => P a0) s0) (fun P : Int64 → Prop => wp_X7_digest (fun a0 => P a0) s0) := by
  unfold wp_X7_digest
  exact (dt_x (fun n6 m_n6 => (dl_X7_digest_L6 s0 (fun v0 => (dt_r _)) (fun w1 z3 => (dt_r _)) n6 m_n6 17 0)))
set_option maxHeartbeats 4000000 in
theorem dt_X7_letter (s0 : Md) (x1 : Int32) (x2 : Int32) : dt (fun P : Int32 → Prop => wp_X7_letter (fun a0 => P a0) s0 x1 x2) (fun P : Int32 → Prop => wp_X7_letter (fun a0 => P a0) s0 x1 x2) := by
  unfold wp_X7_letter
  exact (dt_b1 (F := fun k => wp_X7_in k (Int32.toInt64 x1) (0 : Int64) (1 : Int64)) (dt_X7_in (Int32.toInt64 x1) (0 : Int64) (1 : Int64)) (fun r_1 => (dt_p (dt_r _) (dt_p (dt_b1 (F := fun k => wp_X7_cells k s0) (dt_X7_cells s0) (fun r_5 => (dt_n (dt_b1 (F := fun k => wp_X7_wide k s0) (dt_X7_wide s0) (fun r_8 => (dt_b1 (F := fun k => wp_X7_rows k s0) (dt_X7_rows s0) (fun r_10 => (dt_n (dt_p (dt_b1 (F := fun k => wp_X7_wide k s0) (dt_X7_wide s0) (fun r_14 => (dt_c (dt_b1 (F := fun k => wp_X7_wide k s0) (dt_X7_wide s0) (fun r_17 => (dt_n (dt_b1 (F := fun k => wp_X7_wide k s0) (dt_X7_wide s0) (fun r_20 => (dt_c (dt_b1 (F := fun k => wp_X7_wide k s0) (dt_X7_wide s0) (fun r_23 => (dt_b1 (F := fun k => wp_X7_signAt k s0 (((x2 / (r_20 + 1)) * r_23) + (x2 - ((x2 / (r_14 + 1)) * (r_14 + 1)))) (2 * x1)) (dt_X7_signAt s0 (((x2 / (r_20 + 1)) * r_23) + (x2 - ((x2 / (r_14 + 1)) * (r_14 + 1)))) (2 * x1)) (fun r_25 => (dt_r _)))))))) (dt_r _))))))) (dt_r _)) (dt_r _)))))) (dt_n (dt_p (dt_b1 (F := fun k => wp_X7_wide k s0) (dt_X7_wide s0) (fun r_29 => (dt_c (dt_b1 (F := fun k => wp_X7_wide k s0) (dt_X7_wide s0) (fun r_32 => (dt_n (dt_b1 (F := fun k => wp_X7_wide k s0) (dt_X7_wide s0) (fun r_35 => (dt_c (dt_b1 (F := fun k => wp_X7_wide k s0) (dt_X7_wide s0) (fun r_38 => (dt_b1 (F := fun k => wp_X7_signAt k s0 (((x2 / (r_35 + 1)) * r_38) + (x2 - ((x2 / (r_29 + 1)) * (r_29 + 1)))) (2 * x1)) (dt_X7_signAt s0 (((x2 / (r_35 + 1)) * r_38) + (x2 - ((x2 / (r_29 + 1)) * (r_29 + 1)))) (2 * x1)) (fun r_40 => (dt_r _)))))))) (dt_r _))))))) (dt_r _)) (dt_r _))))) (dt_r _)))))
set_option maxHeartbeats 4000000 in
theorem dt_X7_count (s0 : Md) (x1 : Int32) : dt (fun P : (Int32 × Md) → Prop => wp_X7_count (fun a0 a1 => P (a0, a1)) s0 x1) (fun P : (Int32 × Md) → Prop => wp_X7_count (fun a0 a1 => P (a0, a1)) s0 x1) := by
  unfold wp_X7_count
  exact (dt_p (dt_b1 (F := fun k => wp_X7_rows k s0) (dt_X7_rows s0) (fun r_2 => (dt_r _))) (dt_p (dt_b1 (F := fun k => wp_X7_wide k s0) (dt_X7_wide s0) (fun r_5 => (dt_r _))) (dt_p (dt_b1 (F := fun k => wp_X7_cells k s0) (dt_X7_cells s0) (fun r_8 => (dt_r _))) (dt_p (dt_r _) (dt_p (dt_b1 (F := fun k => wp_X7_drums k s0) (dt_X7_drums s0) (fun r_12 => (dt_r _))) (dt_p (dt_r _) (dt_p (dt_r _) (dt_p (dt_p (dt_p (dt_r _) (dt_r _)) (dt_p (dt_r _) (dt_r _))) (dt_p (dt_b1 (F := fun k => wp_X7_findsTurning k s0) (dt_X7_findsTurning s0) (fun u_22 => (dt_r _))) (dt_r _))))))))))
set_option maxHeartbeats 4000000 in
theorem dl_X7_asks_L13  {O : Type} {G_post G2_post : Md → (O → Prop) → Prop} {G_e135 G2_e135 : Md → Int32 → Int32 → Int32 → Int32 → Int32 → (O → Prop) → Prop} (h_post : ∀ v0, dt (G_post v0) (G2_post v0)) (h_e135 : ∀ v0 v1 v2 v3 v4 v5, dt (G_e135 v0 v1 v2 v3 v4 v5) (G2_e135 v0 v1 v2 v3 v4 v5)) : ∀ (n m : Nat) (t0 : Md) (z1 : Int32) (z2 : Int32) (z3 : Int32) (z4 : Int32) (z5 : Int32), dt (fun P : O → Prop => wp_X7_asks_L13 (fun v0 => G_post v0 P) (fun v0 v1 v2 v3 v4 v5 => G_e135 v0 v1 v2 v3 v4 v5 P) n t0 z1 z2 z3 z4 z5) (fun P : O → Prop => wp_X7_asks_L13 (fun v0 => G2_post v0 P) (fun v0 v1 v2 v3 v4 v5 => G2_e135 v0 v1 v2 v3 v4 v5 P) m t0 z1 z2 z3 z4 z5) := by
  intro n
  induction n with
  | zero => exact fun _ _ _ _ _ _ _ => dt_F
  | succ n13 ih =>
    intro m t0 z1 z2 z3 z4 z5
    have key : ∀ m9 : Nat, dt (fun P : O → Prop => wp_X7_asks_L13 (fun v0 => G_post v0 P) (fun v0 v1 v2 v3 v4 v5 => G_e135 v0 v1 v2 v3 v4 v5 P) (n13 + 1) t0 z1 z2 z3 z4 z5) (fun P : O → Prop => wp_X7_asks_L13 (fun v0 => G2_post v0 P) (fun v0 v1 v2 v3 v4 v5 => G2_e135 v0 v1 v2 v3 v4 v5 P) (m9 + 1) t0 z1 z2 z3 z4 z5) := by
      intro m9
      unfold wp_X7_asks_L13
      exact (dt_b1 (F := fun k => wp_X7_wide k t0) (dt_X7_wide t0) (fun r_1 => (dt_p (h_e135 t0 z1 z2 z3 z4 z5) (dt_b1 (F := fun k => wp_X7_wide k t0) (dt_X7_wide t0) (fun r_4 => (dt_p (dt_b1 (F := fun k => wp_X7_of k t0 ((r_4 * z1) + z5) (2 : Int32)) (dt_X7_of t0 ((r_4 * z1) + z5) (2 : Int32)) (fun r_7 => (dt_b1 (F := fun k => wp_X7_flaps k t0 ((r_4 * z1) + z5)) (dt_X7_flaps t0 ((r_4 * z1) + z5)) (fun r_9 => (dt_b1 (F := fun k => wp_X7_on k r_7 (0 : Int32) r_9) (dt_X7_on r_7 (0 : Int32) r_9) (fun r_11 => (ih m9 ((va_up t0.1 3 ((t0.1 3) + r_11)), t0.2.1, t0.2.2.1, t0.2.2.2) z1 z2 z3 z4 (z5 + 1)))))))) (dt_p (dt_b1 (F := fun k => wp_X7_of k t0 ((r_4 * z1) + z5) (2 : Int32)) (dt_X7_of t0 ((r_4 * z1) + z5) (2 : Int32)) (fun r_14 => (dt_b1 (F := fun k => wp_X7_flaps k t0 ((r_4 * z1) + z5)) (dt_X7_flaps t0 ((r_4 * z1) + z5)) (fun r_16 => (dt_b1 (F := fun k => wp_X7_on k r_14 (0 : Int32) r_16) (dt_X7_on r_14 (0 : Int32) r_16) (fun r_18 => (ih m9 ((va_up t0.1 3 ((t0.1 3) + r_18)), t0.2.1, t0.2.2.1, t0.2.2.2) z1 z2 z3 z4 (z5 + 1)))))))) (dt_c (dt_b1 (F := fun k => wp_X7_flapFor k t0 ((r_4 * z1) + z5) ((t0.2.2.2 2) (Int32.toNatClampNeg ((z3 + z5) - z2)))) (dt_X7_flapFor t0 ((r_4 * z1) + z5) ((t0.2.2.2 2) (Int32.toNatClampNeg ((z3 + z5) - z2)))) (fun r_21 => (dt_n (dt_b1 (F := fun k => wp_X7_of k t0 ((r_4 * z1) + z5) (2 : Int32)) (dt_X7_of t0 ((r_4 * z1) + z5) (2 : Int32)) (fun r_24 => (dt_b1 (F := fun k => wp_X7_flaps k t0 ((r_4 * z1) + z5)) (dt_X7_flaps t0 ((r_4 * z1) + z5)) (fun r_26 => (dt_b1 (F := fun k => wp_X7_on k r_24 r_21 r_26) (dt_X7_on r_24 r_21 r_26) (fun r_28 => (ih m9 ((va_up t0.1 3 ((t0.1 3) + r_28)), t0.2.1, t0.2.2.1, t0.2.2.2) z1 z2 z3 z4 (z5 + 1)))))))) (ih m9 ((va_up t0.1 4 ((t0.1 4) + 1)), t0.2.1, t0.2.2.1, t0.2.2.2) z1 z2 z3 z4 (z5 + 1)))))))))))))
    cases m with
    | zero => exact dt_0 (key 0)
    | succ m9 => exact key m9
set_option maxHeartbeats 4000000 in
theorem dt_X7_asks (s0 : Md) (x1 : Int32) (x2 : Int32) (x3 : Int32) (x4 : Int32) : dt (fun P : Md → Prop => wp_X7_asks (fun a0 => P a0) s0 x1 x2 x3 x4) (fun P : Md → Prop => wp_X7_asks (fun a0 => P a0) s0 x1 x2 x3 x4) := by
  unfold wp_X7_asks
  exact (dt_x (fun n13 m_n13 => (dl_X7_asks_L13  (fun v0 => (dt_r _)) (fun t0 z1 z2 z3 z4 z5 => (dt_r _)) n13 m_n13 ((va_up (va_up s0.1 3 0) 4 0), s0.2.1, s0.2.2.1, s0.2.2.2) x1 x2 x3 x4 0)))
set_option maxHeartbeats 4000000 in
theorem dt_X7_cost (s0 : Md) (x1 : Int32) : dt (fun P : (Int32 × Md) → Prop => wp_X7_cost (fun a0 a1 => P (a0, a1)) s0 x1) (fun P : (Int32 × Md) → Prop => wp_X7_cost (fun a0 a1 => P (a0, a1)) s0 x1) := by
  unfold wp_X7_cost
  exact (dt_b1 (F := fun k => wp_X7_isRow k s0 x1) (dt_X7_isRow s0 x1) (fun r_1 => (dt_n (dt_b1 (F := fun k => wp_X7_isRowText k s0 (s0.1 5)) (dt_X7_isRowText s0 (s0.1 5)) (fun r_4 => (dt_n (dt_b1 (F := fun k => wp_X7_asks k s0 x1 (0 : Int32) (0 : Int32) (s0.1 5)) (dt_X7_asks s0 x1 (0 : Int32) (0 : Int32) (s0.1 5)) (fun u_8 => (dt_r _))) (dt_r _)))) (dt_r _))))
set_option maxHeartbeats 4000000 in
theorem dl_X7_endOf_L2 (s0 : Md) {O : Type} {G_post G2_post : Int32 → (O → Prop) → Prop} {G_e27 G2_e27 : Int32 → Int32 → (O → Prop) → Prop} (h_post : ∀ v0, dt (G_post v0) (G2_post v0)) (h_e27 : ∀ v0 v1, dt (G_e27 v0 v1) (G2_e27 v0 v1)) : ∀ (n m : Nat) (z1 : Int32) (z2 : Int32), dt (fun P : O → Prop => wp_X7_endOf_L2 s0 (fun v0 => G_post v0 P) (fun v0 v1 => G_e27 v0 v1 P) n z1 z2) (fun P : O → Prop => wp_X7_endOf_L2 s0 (fun v0 => G2_post v0 P) (fun v0 v1 => G2_e27 v0 v1 P) m z1 z2) := by
  intro n
  induction n with
  | zero => exact fun _ _ _ => dt_F
  | succ n2 ih =>
    intro m z1 z2
    have key : ∀ m9 : Nat, dt (fun P : O → Prop => wp_X7_endOf_L2 s0 (fun v0 => G_post v0 P) (fun v0 v1 => G_e27 v0 v1 P) (n2 + 1) z1 z2) (fun P : O → Prop => wp_X7_endOf_L2 s0 (fun v0 => G2_post v0 P) (fun v0 v1 => G2_e27 v0 v1 P) (m9 + 1) z1 z2) := by
      intro m9
      unfold wp_X7_endOf_L2
      exact (dt_p (h_e27 z1 z2) (dt_c (dt_p (h_e27 z1 z2) (ih m9 z1 (z2 + 1)))))
    cases m with
    | zero => exact dt_0 (key 0)
    | succ m9 => exact key m9
set_option maxHeartbeats 4000000 in
theorem dt_X7_endOf (s0 : Md) (x1 : Int32) : dt (fun P : Int32 → Prop => wp_X7_endOf (fun a0 => P a0) s0 x1) (fun P : Int32 → Prop => wp_X7_endOf (fun a0 => P a0) s0 x1) := by
  unfold wp_X7_endOf
  exact (dt_x (fun n2 m_n2 => (dl_X7_endOf_L2 s0 (fun v0 => (dt_r _)) (fun z1 z2 => (dt_r _)) n2 m_n2 x1 x1)))
set_option maxHeartbeats 4000000 in
theorem dl_X7_best_L36  {O : Type} {G_post G2_post : Int32 → Md → (O → Prop) → Prop} {G_e152 G2_e152 : Md → Int32 → Int32 → Int32 → Int32 → Int32 → Int32 → Int32 → (O → Prop) → Prop} (h_post : ∀ v0 v1, dt (G_post v0 v1) (G2_post v0 v1)) (h_e152 : ∀ v0 v1 v2 v3 v4 v5 v6 v7, dt (G_e152 v0 v1 v2 v3 v4 v5 v6 v7) (G2_e152 v0 v1 v2 v3 v4 v5 v6 v7)) : ∀ (n m : Nat) (t0 : Md) (z1 : Int32) (z2 : Int32) (z3 : Int32) (z4 : Int32) (z5 : Int32) (z6 : Int32) (z7 : Int32), dt (fun P : O → Prop => wp_X7_best_L36 (fun v0 v1 => G_post v0 v1 P) (fun v0 v1 v2 v3 v4 v5 v6 v7 => G_e152 v0 v1 v2 v3 v4 v5 v6 v7 P) n t0 z1 z2 z3 z4 z5 z6 z7) (fun P : O → Prop => wp_X7_best_L36 (fun v0 v1 => G2_post v0 v1 P) (fun v0 v1 v2 v3 v4 v5 v6 v7 => G2_e152 v0 v1 v2 v3 v4 v5 v6 v7 P) m t0 z1 z2 z3 z4 z5 z6 z7) := by
  intro n
  induction n with
  | zero => exact fun _ _ _ _ _ _ _ _ _ => dt_F
  | succ n36 ih =>
    intro m t0 z1 z2 z3 z4 z5 z6 z7
    have key : ∀ m9 : Nat, dt (fun P : O → Prop => wp_X7_best_L36 (fun v0 v1 => G_post v0 v1 P) (fun v0 v1 v2 v3 v4 v5 v6 v7 => G_e152 v0 v1 v2 v3 v4 v5 v6 v7 P) (n36 + 1) t0 z1 z2 z3 z4 z5 z6 z7) (fun P : O → Prop => wp_X7_best_L36 (fun v0 v1 => G2_post v0 v1 P) (fun v0 v1 v2 v3 v4 v5 v6 v7 => G2_e152 v0 v1 v2 v3 v4 v5 v6 v7 P) (m9 + 1) t0 z1 z2 z3 z4 z5 z6 z7) := by
      intro m9
      unfold wp_X7_best_L36
      exact (dt_p (h_e152 t0 z1 z2 z3 z4 z5 z6 z7) (dt_b1 (F := fun k => wp_X7_endOf k t0 z7) (dt_X7_endOf t0 z7) (fun r_8 => (dt_b1 (F := fun k => wp_X7_wide k t0) (dt_X7_wide t0) (fun r_10 => (dt_p (h_post (-2) t0) (dt_b1 (F := fun k => wp_X7_areSigns k t0 z7 (r_8 - z7)) (dt_X7_areSigns t0 z7 (r_8 - z7)) (fun r_13 => (dt_n (dt_b1 (F := fun k => wp_X7_asks k t0 z1 (0 : Int32) z7 (r_8 - z7)) (dt_X7_asks t0 z1 (0 : Int32) z7 (r_8 - z7)) (fun u_17 => (dt_p (dt_b1 (F := fun k => wp_X7_endOf k u_17 z7) (dt_X7_endOf u_17 z7) (fun r_19 => (ih m9 u_17 z1 z2 z6 (u_17.1 3) (u_17.1 4) (z6 + 1) (r_19 + 1)))) (dt_p (dt_b1 (F := fun k => wp_X7_endOf k u_17 z7) (dt_X7_endOf u_17 z7) (fun r_22 => (ih m9 u_17 z1 z2 z6 (u_17.1 3) (u_17.1 4) (z6 + 1) (r_22 + 1)))) (dt_n (dt_b1 (F := fun k => wp_X7_endOf k u_17 z7) (dt_X7_endOf u_17 z7) (fun r_25 => (ih m9 u_17 z1 z2 z3 z4 z5 (z6 + 1) (r_25 + 1)))) (dt_p (dt_b1 (F := fun k => wp_X7_endOf k u_17 z7) (dt_X7_endOf u_17 z7) (fun r_28 => (ih m9 u_17 z1 z2 z3 z4 z5 (z6 + 1) (r_28 + 1)))) (dt_b1 (F := fun k => wp_X7_endOf k u_17 z7) (dt_X7_endOf u_17 z7) (fun r_30 => (ih m9 u_17 z1 z2 z6 (u_17.1 3) (u_17.1 4) (z6 + 1) (r_30 + 1)))))))))) (h_post (-2) t0))))))))))
    cases m with
    | zero => exact dt_0 (key 0)
    | succ m9 => exact key m9
set_option maxHeartbeats 4000000 in
theorem dt_X7_best (s0 : Md) (x1 : Int32) (x2 : Int32) : dt (fun P : (Int32 × Md) → Prop => wp_X7_best (fun a0 a1 => P (a0, a1)) s0 x1 x2) (fun P : (Int32 × Md) → Prop => wp_X7_best (fun a0 a1 => P (a0, a1)) s0 x1 x2) := by
  unfold wp_X7_best
  exact (dt_b1 (F := fun k => wp_X7_isRow k s0 x1) (dt_X7_isRow s0 x1) (fun r_1 => (dt_p (dt_r _) (dt_b1 (F := fun k => wp_X7_in k (Int32.toInt64 x2) (0 : Int64) (2 : Int64)) (dt_X7_in (Int32.toInt64 x2) (0 : Int64) (2 : Int64)) (fun r_4 => (dt_n (dt_x (fun n36 m_n36 => (dl_X7_best_L36  (fun v0 v1 => (dt_r _)) (fun t0 z1 z2 z3 z4 z5 z6 z7 => (dt_n (dt_n (dt_r _) (dt_r _)) (dt_r _))) n36 m_n36 s0 x1 x2 (-1) 0 0 0 0))) (dt_r _)))))))
set_option maxHeartbeats 4000000 in
theorem dl_X7_place_L52  {O : Type} {G_post G2_post : Int32 → Md → (O → Prop) → Prop} {G_e134 G2_e134 : Md → Int32 → Int32 → Int32 → Int32 → Int32 → Int32 → (O → Prop) → Prop} (h_post : ∀ v0 v1, dt (G_post v0 v1) (G2_post v0 v1)) (h_e134 : ∀ v0 v1 v2 v3 v4 v5 v6, dt (G_e134 v0 v1 v2 v3 v4 v5 v6) (G2_e134 v0 v1 v2 v3 v4 v5 v6)) : ∀ (n m : Nat) (t0 : Md) (z1 : Int32) (z2 : Int32) (z3 : Int32) (z4 : Int32) (z5 : Int32) (z6 : Int32), dt (fun P : O → Prop => wp_X7_place_L52 (fun v0 v1 => G_post v0 v1 P) (fun v0 v1 v2 v3 v4 v5 v6 => G_e134 v0 v1 v2 v3 v4 v5 v6 P) n t0 z1 z2 z3 z4 z5 z6) (fun P : O → Prop => wp_X7_place_L52 (fun v0 v1 => G2_post v0 v1 P) (fun v0 v1 v2 v3 v4 v5 v6 => G2_e134 v0 v1 v2 v3 v4 v5 v6 P) m t0 z1 z2 z3 z4 z5 z6) := by
  intro n
  induction n with
  | zero => exact fun _ _ _ _ _ _ _ _ => dt_F
  | succ n52 ih =>
    intro m t0 z1 z2 z3 z4 z5 z6
    have key : ∀ m9 : Nat, dt (fun P : O → Prop => wp_X7_place_L52 (fun v0 v1 => G_post v0 v1 P) (fun v0 v1 v2 v3 v4 v5 v6 => G_e134 v0 v1 v2 v3 v4 v5 v6 P) (n52 + 1) t0 z1 z2 z3 z4 z5 z6) (fun P : O → Prop => wp_X7_place_L52 (fun v0 v1 => G2_post v0 v1 P) (fun v0 v1 v2 v3 v4 v5 v6 => G2_e134 v0 v1 v2 v3 v4 v5 v6 P) (m9 + 1) t0 z1 z2 z3 z4 z5 z6) := by
      intro m9
      unfold wp_X7_place_L52
      exact (dt_b1 (F := fun k => wp_X7_wide k t0) (dt_X7_wide t0) (fun r_11 => (dt_p (h_e134 t0 z1 z2 z3 z4 z5 z6) (dt_b1 (F := fun k => wp_X7_asks k t0 z1 z6 (0 : Int32) (t0.1 5)) (dt_X7_asks t0 z1 z6 (0 : Int32) (t0.1 5)) (fun u_15 => (dt_p (ih m9 u_15 z1 z2 z6 (u_15.1 3) (u_15.1 4) (z6 + 1)) (dt_p (ih m9 u_15 z1 z2 z3 z4 z5 (z6 + 1)) (dt_n (ih m9 u_15 z1 z2 z6 (u_15.1 3) (u_15.1 4) (z6 + 1)) (dt_p (ih m9 u_15 z1 z2 z6 (u_15.1 3) (u_15.1 4) (z6 + 1)) (ih m9 u_15 z1 z2 z3 z4 z5 (z6 + 1)))))))))))
    cases m with
    | zero => exact dt_0 (key 0)
    | succ m9 => exact key m9
set_option maxHeartbeats 4000000 in
theorem dt_X7_place (s0 : Md) (x1 : Int32) (x2 : Int32) : dt (fun P : (Int32 × Md) → Prop => wp_X7_place (fun a0 a1 => P (a0, a1)) s0 x1 x2) (fun P : (Int32 × Md) → Prop => wp_X7_place (fun a0 a1 => P (a0, a1)) s0 x1 x2) := by
  unfold wp_X7_place
  exact (dt_b1 (F := fun k => wp_X7_isRow k s0 x1) (dt_X7_isRow s0 x1) (fun r_1 => (dt_p (dt_r _) (dt_b1 (F := fun k => wp_X7_in k (Int32.toInt64 x2) (0 : Int64) (1 : Int64)) (dt_X7_in (Int32.toInt64 x2) (0 : Int64) (1 : Int64)) (fun r_4 => (dt_n (dt_p (dt_r _) (dt_b1 (F := fun k => wp_X7_isRowText k s0 (s0.1 5)) (dt_X7_isRowText s0 (s0.1 5)) (fun r_8 => (dt_n (dt_x (fun n52 m_n52 => (dl_X7_place_L52  (fun v0 v1 => (dt_r _)) (fun t0 z1 z2 z3 z4 z5 z6 => (dt_n (dt_r _) (dt_r _))) n52 m_n52 s0 x1 x2 (-1) 0 0 0))) (dt_r _))))) (dt_r _)))))))
set_option maxHeartbeats 4000000 in
theorem dt_X7_logged (s0 : Md) (x1 : Int32) (x2 : Int32) (x3 : Int32) : dt (fun P : Int32 → Prop => wp_X7_logged (fun a0 => P a0) s0 x1 x2 x3) (fun P : Int32 → Prop => wp_X7_logged (fun a0 => P a0) s0 x1 x2 x3) := by
  unfold wp_X7_logged
  exact (dt_c (dt_r _))
set_option maxHeartbeats 4000000 in
theorem dt_X7_moved (x0 : Int32) (x1 : Int32) (x2 : Int32) : dt (fun P : Int32 → Prop => wp_X7_moved (fun a0 => P a0) x0 x1 x2) (fun P : Int32 → Prop => wp_X7_moved (fun a0 => P a0) x0 x1 x2) := by
  unfold wp_X7_moved
  exact (dt_n (dt_n (dt_r _) (dt_r _)) (dt_r _))
set_option maxHeartbeats 4000000 in
theorem dl_X7_journey_L23 (s0 : Md) {O : Type} {G_post G2_post : Int32 → (O → Prop) → Prop} {G_e82 G2_e82 : Int32 → Int32 → Int32 → Int32 → Int32 → Int32 → Int32 → (O → Prop) → Prop} (h_post : ∀ v0, dt (G_post v0) (G2_post v0)) (h_e82 : ∀ v0 v1 v2 v3 v4 v5 v6, dt (G_e82 v0 v1 v2 v3 v4 v5 v6) (G2_e82 v0 v1 v2 v3 v4 v5 v6)) : ∀ (n m : Nat) (z1 : Int32) (z2 : Int32) (z3 : Int32) (z4 : Int32) (z5 : Int32) (z6 : Int32) (z7 : Int32), dt (fun P : O → Prop => wp_X7_journey_L23 s0 (fun v0 => G_post v0 P) (fun v0 v1 v2 v3 v4 v5 v6 => G_e82 v0 v1 v2 v3 v4 v5 v6 P) n z1 z2 z3 z4 z5 z6 z7) (fun P : O → Prop => wp_X7_journey_L23 s0 (fun v0 => G2_post v0 P) (fun v0 v1 v2 v3 v4 v5 v6 => G2_e82 v0 v1 v2 v3 v4 v5 v6 P) m z1 z2 z3 z4 z5 z6 z7) := by
  intro n
  induction n with
  | zero => exact fun _ _ _ _ _ _ _ _ => dt_F
  | succ n23 ih =>
    intro m z1 z2 z3 z4 z5 z6 z7
    have key : ∀ m9 : Nat, dt (fun P : O → Prop => wp_X7_journey_L23 s0 (fun v0 => G_post v0 P) (fun v0 v1 v2 v3 v4 v5 v6 => G_e82 v0 v1 v2 v3 v4 v5 v6 P) (n23 + 1) z1 z2 z3 z4 z5 z6 z7) (fun P : O → Prop => wp_X7_journey_L23 s0 (fun v0 => G2_post v0 P) (fun v0 v1 v2 v3 v4 v5 v6 => G2_e82 v0 v1 v2 v3 v4 v5 v6 P) (m9 + 1) z1 z2 z3 z4 z5 z6 z7) := by
      intro m9
      unfold wp_X7_journey_L23
      exact (dt_p (h_e82 z1 z2 z3 z4 z5 z6 z7) (dt_b1 (F := fun k => wp_X7_logged k s0 z1 z6 z7) (dt_X7_logged s0 z1 z6 z7) (fun r_5 => (dt_p (ih m9 z1 z2 z3 z4 z5 z6 (z7 + 1)) (dt_b1 (F := fun k => wp_X7_logged k s0 z1 z6 z7) (dt_X7_logged s0 z1 z6 z7) (fun r_8 => (dt_b1 (F := fun k => wp_X7_moved k z6 z2 z3) (dt_X7_moved z6 z2 z3) (fun r_10 => (dt_b1 (F := fun k => wp_X7_moved k z7 z2 z3) (dt_X7_moved z7 z2 z3) (fun r_12 => (dt_b1 (F := fun k => wp_X7_on k r_10 r_12 z4) (dt_X7_on r_10 r_12 z4) (fun r_14 => (ih m9 z1 z2 z3 z4 (z5 + (r_8 * r_14)) z6 (z7 + 1))))))))))))))
    cases m with
    | zero => exact dt_0 (key 0)
    | succ m9 => exact key m9
set_option maxHeartbeats 4000000 in
theorem dl_X7_journey_L13 (s0 : Md) {O : Type} {G_post G2_post : Int32 → (O → Prop) → Prop} {G_e88 G2_e88 : Int32 → Int32 → Int32 → Int32 → Int32 → Int32 → (O → Prop) → Prop} (h_post : ∀ v0, dt (G_post v0) (G2_post v0)) (h_e88 : ∀ v0 v1 v2 v3 v4 v5, dt (G_e88 v0 v1 v2 v3 v4 v5) (G2_e88 v0 v1 v2 v3 v4 v5)) : ∀ (n m : Nat) (z1 : Int32) (z2 : Int32) (z3 : Int32) (z4 : Int32) (z5 : Int32) (z6 : Int32), dt (fun P : O → Prop => wp_X7_journey_L13 s0 (fun v0 => G_post v0 P) (fun v0 v1 v2 v3 v4 v5 => G_e88 v0 v1 v2 v3 v4 v5 P) n z1 z2 z3 z4 z5 z6) (fun P : O → Prop => wp_X7_journey_L13 s0 (fun v0 => G2_post v0 P) (fun v0 v1 v2 v3 v4 v5 => G2_e88 v0 v1 v2 v3 v4 v5 P) m z1 z2 z3 z4 z5 z6) := by
  intro n
  induction n with
  | zero => exact fun _ _ _ _ _ _ _ => dt_F
  | succ n13 ih =>
    intro m z1 z2 z3 z4 z5 z6
    have key : ∀ m9 : Nat, dt (fun P : O → Prop => wp_X7_journey_L13 s0 (fun v0 => G_post v0 P) (fun v0 v1 v2 v3 v4 v5 => G_e88 v0 v1 v2 v3 v4 v5 P) (n13 + 1) z1 z2 z3 z4 z5 z6) (fun P : O → Prop => wp_X7_journey_L13 s0 (fun v0 => G2_post v0 P) (fun v0 v1 v2 v3 v4 v5 => G2_e88 v0 v1 v2 v3 v4 v5 P) (m9 + 1) z1 z2 z3 z4 z5 z6) := by
      intro m9
      unfold wp_X7_journey_L13
      exact (dt_p (h_e88 z1 z2 z3 z4 z5 z6) (dt_x (fun n23 m_n23 => (dl_X7_journey_L23 s0 (fun v0 => (h_post v0)) (fun z1 z2 z3 z4 z5 z6 z7 => (ih m9 z1 z2 z3 z4 z5 (z6 + 1))) n23 m_n23 z1 z2 z3 z4 z5 z6 0))))
    cases m with
    | zero => exact dt_0 (key 0)
    | succ m9 => exact key m9
set_option maxHeartbeats 4000000 in
theorem dt_X7_journey (s0 : Md) (x1 : Int32) (x2 : Int32) (x3 : Int32) : dt (fun P : Int32 → Prop => wp_X7_journey (fun a0 => P a0) s0 x1 x2 x3) (fun P : Int32 → Prop => wp_X7_journey (fun a0 => P a0) s0 x1 x2 x3) := by
  unfold wp_X7_journey
  exact (dt_b1 (F := fun k => wp_X7_flapsOf k s0 x1) (dt_X7_flapsOf s0 x1) (fun r_1 => (dt_x (fun n13 m_n13 => (dl_X7_journey_L13 s0 (fun v0 => (dt_r _)) (fun z1 z2 z3 z4 z5 z6 => (dt_r _)) n13 m_n13 x1 x2 x3 r_1 0 0)))))
set_option maxHeartbeats 4000000 in
theorem dl_X7_entries_L15 (s0 : Md) {O : Type} {G_post G2_post : Int32 → (O → Prop) → Prop} {G_e64 G2_e64 : Int32 → Int32 → Int32 → Int32 → Int32 → (O → Prop) → Prop} (h_post : ∀ v0, dt (G_post v0) (G2_post v0)) (h_e64 : ∀ v0 v1 v2 v3 v4, dt (G_e64 v0 v1 v2 v3 v4) (G2_e64 v0 v1 v2 v3 v4)) : ∀ (n m : Nat) (z1 : Int32) (z2 : Int32) (z3 : Int32) (z4 : Int32) (z5 : Int32), dt (fun P : O → Prop => wp_X7_entries_L15 s0 (fun v0 => G_post v0 P) (fun v0 v1 v2 v3 v4 => G_e64 v0 v1 v2 v3 v4 P) n z1 z2 z3 z4 z5) (fun P : O → Prop => wp_X7_entries_L15 s0 (fun v0 => G2_post v0 P) (fun v0 v1 v2 v3 v4 => G2_e64 v0 v1 v2 v3 v4 P) m z1 z2 z3 z4 z5) := by
  intro n
  induction n with
  | zero => exact fun _ _ _ _ _ _ => dt_F
  | succ n15 ih =>
    intro m z1 z2 z3 z4 z5
    have key : ∀ m9 : Nat, dt (fun P : O → Prop => wp_X7_entries_L15 s0 (fun v0 => G_post v0 P) (fun v0 v1 v2 v3 v4 => G_e64 v0 v1 v2 v3 v4 P) (n15 + 1) z1 z2 z3 z4 z5) (fun P : O → Prop => wp_X7_entries_L15 s0 (fun v0 => G2_post v0 P) (fun v0 v1 v2 v3 v4 => G2_e64 v0 v1 v2 v3 v4 P) (m9 + 1) z1 z2 z3 z4 z5) := by
      intro m9
      unfold wp_X7_entries_L15
      exact (dt_p (h_e64 z1 z2 z3 z4 z5) (dt_p (dt_b1 (F := fun k => wp_X7_logged k s0 z1 z4 z5) (dt_X7_logged s0 z1 z4 z5) (fun r_4 => (ih m9 z1 z2 (z3 + r_4) z4 (z5 + 1)))) (dt_b1 (F := fun k => wp_X7_logged k s0 z1 z4 z5) (dt_X7_logged s0 z1 z4 z5) (fun r_6 => (dt_p (ih m9 z1 z2 (z3 + 0) z4 (z5 + 1)) (ih m9 z1 z2 (z3 + 1) z4 (z5 + 1)))))))
    cases m with
    | zero => exact dt_0 (key 0)
    | succ m9 => exact key m9
set_option maxHeartbeats 4000000 in
theorem dl_X7_entries_L5 (s0 : Md) {O : Type} {G_post G2_post : Int32 → (O → Prop) → Prop} {G_e70 G2_e70 : Int32 → Int32 → Int32 → Int32 → (O → Prop) → Prop} (h_post : ∀ v0, dt (G_post v0) (G2_post v0)) (h_e70 : ∀ v0 v1 v2 v3, dt (G_e70 v0 v1 v2 v3) (G2_e70 v0 v1 v2 v3)) : ∀ (n m : Nat) (z1 : Int32) (z2 : Int32) (z3 : Int32) (z4 : Int32), dt (fun P : O → Prop => wp_X7_entries_L5 s0 (fun v0 => G_post v0 P) (fun v0 v1 v2 v3 => G_e70 v0 v1 v2 v3 P) n z1 z2 z3 z4) (fun P : O → Prop => wp_X7_entries_L5 s0 (fun v0 => G2_post v0 P) (fun v0 v1 v2 v3 => G2_e70 v0 v1 v2 v3 P) m z1 z2 z3 z4) := by
  intro n
  induction n with
  | zero => exact fun _ _ _ _ _ => dt_F
  | succ n5 ih =>
    intro m z1 z2 z3 z4
    have key : ∀ m9 : Nat, dt (fun P : O → Prop => wp_X7_entries_L5 s0 (fun v0 => G_post v0 P) (fun v0 v1 v2 v3 => G_e70 v0 v1 v2 v3 P) (n5 + 1) z1 z2 z3 z4) (fun P : O → Prop => wp_X7_entries_L5 s0 (fun v0 => G2_post v0 P) (fun v0 v1 v2 v3 => G2_e70 v0 v1 v2 v3 P) (m9 + 1) z1 z2 z3 z4) := by
      intro m9
      unfold wp_X7_entries_L5
      exact (dt_p (h_e70 z1 z2 z3 z4) (dt_x (fun n15 m_n15 => (dl_X7_entries_L15 s0 (fun v0 => (h_post v0)) (fun z1 z2 z3 z4 z5 => (ih m9 z1 z2 z3 (z4 + 1))) n15 m_n15 z1 z2 z3 z4 0))))
    cases m with
    | zero => exact dt_0 (key 0)
    | succ m9 => exact key m9
set_option maxHeartbeats 4000000 in
theorem dt_X7_entries (s0 : Md) (x1 : Int32) (x2 : Int32) : dt (fun P : Int32 → Prop => wp_X7_entries (fun a0 => P a0) s0 x1 x2) (fun P : Int32 → Prop => wp_X7_entries (fun a0 => P a0) s0 x1 x2) := by
  unfold wp_X7_entries
  exact (dt_x (fun n5 m_n5 => (dl_X7_entries_L5 s0 (fun v0 => (dt_r _)) (fun z1 z2 z3 z4 => (dt_r _)) n5 m_n5 x1 x2 0 0)))
set_option maxHeartbeats 4000000 in
theorem dt_X7_log (s0 : Md) (x1 : Int32) (x2 : Int32) : dt (fun P : Int32 → Prop => wp_X7_log (fun a0 => P a0) s0 x1 x2) (fun P : Int32 → Prop => wp_X7_log (fun a0 => P a0) s0 x1 x2) := by
  unfold wp_X7_log
  exact (dt_b1 (F := fun k => wp_X7_isDrum k s0 x1) (dt_X7_isDrum s0 x1) (fun r_1 => (dt_p (dt_r _) (dt_b1 (F := fun k => wp_X7_in k (Int32.toInt64 x2) (0 : Int64) (2 : Int64)) (dt_X7_in (Int32.toInt64 x2) (0 : Int64) (2 : Int64)) (fun r_4 => (dt_n (dt_n (dt_n (dt_b1 (F := fun k => wp_X7_entries k s0 x1 (0 : Int32)) (dt_X7_entries s0 x1 (0 : Int32)) (fun r_9 => (dt_r _))) (dt_b1 (F := fun k => wp_X7_entries k s0 x1 (1 : Int32)) (dt_X7_entries s0 x1 (1 : Int32)) (fun r_11 => (dt_r _)))) (dt_b1 (F := fun k => wp_X7_journey k s0 x1 (0 : Int32) (0 : Int32)) (dt_X7_journey s0 x1 (0 : Int32) (0 : Int32)) (fun r_13 => (dt_r _)))) (dt_r _)))))))
set_option maxHeartbeats 4000000 in
theorem dl_X7_often_L33 (s0 : Md) {O : Type} {G_post G2_post : Int32 → (O → Prop) → Prop} {G_e74 G2_e74 : Int32 → Int32 → Int32 → Int32 → Int32 → (O → Prop) → Prop} (h_post : ∀ v0, dt (G_post v0) (G2_post v0)) (h_e74 : ∀ v0 v1 v2 v3 v4, dt (G_e74 v0 v1 v2 v3 v4) (G2_e74 v0 v1 v2 v3 v4)) : ∀ (n m : Nat) (z1 : Int32) (z2 : Int32) (z3 : Int32) (z4 : Int32) (z5 : Int32), dt (fun P : O → Prop => wp_X7_often_L33 s0 (fun v0 => G_post v0 P) (fun v0 v1 v2 v3 v4 => G_e74 v0 v1 v2 v3 v4 P) n z1 z2 z3 z4 z5) (fun P : O → Prop => wp_X7_often_L33 s0 (fun v0 => G2_post v0 P) (fun v0 v1 v2 v3 v4 => G2_e74 v0 v1 v2 v3 v4 P) m z1 z2 z3 z4 z5) := by
  intro n
  induction n with
  | zero => exact fun _ _ _ _ _ _ => dt_F
  | succ n33 ih =>
    intro m z1 z2 z3 z4 z5
    have key : ∀ m9 : Nat, dt (fun P : O → Prop => wp_X7_often_L33 s0 (fun v0 => G_post v0 P) (fun v0 v1 v2 v3 v4 => G_e74 v0 v1 v2 v3 v4 P) (n33 + 1) z1 z2 z3 z4 z5) (fun P : O → Prop => wp_X7_often_L33 s0 (fun v0 => G2_post v0 P) (fun v0 v1 v2 v3 v4 => G2_e74 v0 v1 v2 v3 v4 P) (m9 + 1) z1 z2 z3 z4 z5) := by
      intro m9
      unfold wp_X7_often_L33
      exact (dt_p (h_e74 z1 z2 z3 z4 z5) (dt_p (dt_b1 (F := fun k => wp_X7_logged k s0 z1 z2 z5) (dt_X7_logged s0 z1 z2 z5) (fun r_11 => (ih m9 z1 z2 z3 (z4 + r_11) (z5 + 1)))) (dt_b1 (F := fun k => wp_X7_logged k s0 z1 z5 z2) (dt_X7_logged s0 z1 z5 z2) (fun r_13 => (ih m9 z1 z2 z3 (z4 + r_13) (z5 + 1))))))
    cases m with
    | zero => exact dt_0 (key 0)
    | succ m9 => exact key m9
set_option maxHeartbeats 4000000 in
theorem dt_X7_often (s0 : Md) (x1 : Int32) (x2 : Int32) (x3 : Int32) : dt (fun P : Int32 → Prop => wp_X7_often (fun a0 => P a0) s0 x1 x2 x3) (fun P : Int32 → Prop => wp_X7_often (fun a0 => P a0) s0 x1 x2 x3) := by
  unfold wp_X7_often
  exact (dt_b1 (F := fun k => wp_X7_isDrum k s0 x1) (dt_X7_isDrum s0 x1) (fun r_1 => (dt_p (dt_r _) (dt_b1 (F := fun k => wp_X7_flapsOf k s0 x1) (dt_X7_flapsOf s0 x1) (fun r_4 => (dt_b1 (F := fun k => wp_X7_in k (Int32.toInt64 x2) (0 : Int64) (Int32.toInt64 (r_4 - 1))) (dt_X7_in (Int32.toInt64 x2) (0 : Int64) (Int32.toInt64 (r_4 - 1))) (fun r_6 => (dt_n (dt_x (fun n33 m_n33 => (dl_X7_often_L33 s0 (fun v0 => (dt_r _)) (fun z1 z2 z3 z4 z5 => (dt_r _)) n33 m_n33 x1 x2 x3 0 0))) (dt_r _)))))))))
set_option maxHeartbeats 4000000 in
theorem dl_X7_better_L57 (s0 : Md) {O : Type} {G_post G2_post : Int32 → (O → Prop) → Prop} {G_e104 G2_e104 : Int32 → Int32 → Int32 → Int32 → Int32 → Int32 → Int32 → (O → Prop) → Prop} (h_post : ∀ v0, dt (G_post v0) (G2_post v0)) (h_e104 : ∀ v0 v1 v2 v3 v4 v5 v6, dt (G_e104 v0 v1 v2 v3 v4 v5 v6) (G2_e104 v0 v1 v2 v3 v4 v5 v6)) : ∀ (n m : Nat) (z1 : Int32) (z2 : Int32) (z3 : Int32) (z4 : Int32) (z5 : Int32) (z6 : Int32) (z7 : Int32), dt (fun P : O → Prop => wp_X7_better_L57 s0 (fun v0 => G_post v0 P) (fun v0 v1 v2 v3 v4 v5 v6 => G_e104 v0 v1 v2 v3 v4 v5 v6 P) n z1 z2 z3 z4 z5 z6 z7) (fun P : O → Prop => wp_X7_better_L57 s0 (fun v0 => G2_post v0 P) (fun v0 v1 v2 v3 v4 v5 v6 => G2_e104 v0 v1 v2 v3 v4 v5 v6 P) m z1 z2 z3 z4 z5 z6 z7) := by
  intro n
  induction n with
  | zero => exact fun _ _ _ _ _ _ _ _ => dt_F
  | succ n57 ih =>
    intro m z1 z2 z3 z4 z5 z6 z7
    have key : ∀ m9 : Nat, dt (fun P : O → Prop => wp_X7_better_L57 s0 (fun v0 => G_post v0 P) (fun v0 v1 v2 v3 v4 v5 v6 => G_e104 v0 v1 v2 v3 v4 v5 v6 P) (n57 + 1) z1 z2 z3 z4 z5 z6 z7) (fun P : O → Prop => wp_X7_better_L57 s0 (fun v0 => G2_post v0 P) (fun v0 v1 v2 v3 v4 v5 v6 => G2_e104 v0 v1 v2 v3 v4 v5 v6 P) (m9 + 1) z1 z2 z3 z4 z5 z6 z7) := by
      intro m9
      unfold wp_X7_better_L57
      exact (dt_b1 (F := fun k => wp_X7_flapsOf k s0 z1) (dt_X7_flapsOf s0 z1) (fun r_12 => (dt_p (h_e104 z1 z2 z3 z4 z5 z6 z7) (dt_b1 (F := fun k => wp_X7_journey k s0 z1 z6 z7) (dt_X7_journey s0 z1 z6 z7) (fun r_15 => (dt_p (ih m9 z1 z2 r_15 z6 z7 z6 (z7 + 1)) (ih m9 z1 z2 z3 z4 z5 z6 (z7 + 1))))))))
    cases m with
    | zero => exact dt_0 (key 0)
    | succ m9 => exact key m9
set_option maxHeartbeats 4000000 in
theorem dl_X7_better_L41 (s0 : Md) {O : Type} {G_post G2_post : Int32 → (O → Prop) → Prop} {G_e110 G2_e110 : Int32 → Int32 → Int32 → Int32 → Int32 → Int32 → (O → Prop) → Prop} (h_post : ∀ v0, dt (G_post v0) (G2_post v0)) (h_e110 : ∀ v0 v1 v2 v3 v4 v5, dt (G_e110 v0 v1 v2 v3 v4 v5) (G2_e110 v0 v1 v2 v3 v4 v5)) : ∀ (n m : Nat) (z1 : Int32) (z2 : Int32) (z3 : Int32) (z4 : Int32) (z5 : Int32) (z6 : Int32), dt (fun P : O → Prop => wp_X7_better_L41 s0 (fun v0 => G_post v0 P) (fun v0 v1 v2 v3 v4 v5 => G_e110 v0 v1 v2 v3 v4 v5 P) n z1 z2 z3 z4 z5 z6) (fun P : O → Prop => wp_X7_better_L41 s0 (fun v0 => G2_post v0 P) (fun v0 v1 v2 v3 v4 v5 => G2_e110 v0 v1 v2 v3 v4 v5 P) m z1 z2 z3 z4 z5 z6) := by
  intro n
  induction n with
  | zero => exact fun _ _ _ _ _ _ _ => dt_F
  | succ n41 ih =>
    intro m z1 z2 z3 z4 z5 z6
    have key : ∀ m9 : Nat, dt (fun P : O → Prop => wp_X7_better_L41 s0 (fun v0 => G_post v0 P) (fun v0 v1 v2 v3 v4 v5 => G_e110 v0 v1 v2 v3 v4 v5 P) (n41 + 1) z1 z2 z3 z4 z5 z6) (fun P : O → Prop => wp_X7_better_L41 s0 (fun v0 => G2_post v0 P) (fun v0 v1 v2 v3 v4 v5 => G2_e110 v0 v1 v2 v3 v4 v5 P) (m9 + 1) z1 z2 z3 z4 z5 z6) := by
      intro m9
      unfold wp_X7_better_L41
      exact (dt_b1 (F := fun k => wp_X7_flapsOf k s0 z1) (dt_X7_flapsOf s0 z1) (fun r_9 => (dt_p (h_e110 z1 z2 z3 z4 z5 z6) (dt_x (fun n57 m_n57 => (dl_X7_better_L57 s0 (fun v0 => (h_post v0)) (fun z1 z2 z3 z4 z5 z6 z7 => (ih m9 z1 z2 z3 z4 z5 (z6 + 1))) n57 m_n57 z1 z2 z3 z4 z5 z6 (z6 + 1)))))))
    cases m with
    | zero => exact dt_0 (key 0)
    | succ m9 => exact key m9
set_option maxHeartbeats 4000000 in
theorem dt_X7_better (s0 : Md) (x1 : Int32) (x2 : Int32) : dt (fun P : Int32 → Prop => wp_X7_better (fun a0 => P a0) s0 x1 x2) (fun P : Int32 → Prop => wp_X7_better (fun a0 => P a0) s0 x1 x2) := by
  unfold wp_X7_better
  exact (dt_b1 (F := fun k => wp_X7_isDrum k s0 x1) (dt_X7_isDrum s0 x1) (fun r_1 => (dt_p (dt_r _) (dt_b1 (F := fun k => wp_X7_in k (Int32.toInt64 x2) (0 : Int64) (2 : Int64)) (dt_X7_in (Int32.toInt64 x2) (0 : Int64) (2 : Int64)) (fun r_4 => (dt_n (dt_b1 (F := fun k => wp_X7_journey k s0 x1 (0 : Int32) (0 : Int32)) (dt_X7_journey s0 x1 (0 : Int32) (0 : Int32)) (fun r_7 => (dt_x (fun n41 m_n41 => (dl_X7_better_L41 s0 (fun v0 => (dt_r _)) (fun z1 z2 z3 z4 z5 z6 => (dt_n (dt_n (dt_n (dt_r _) (dt_r _)) (dt_r _)) (dt_r _))) n41 m_n41 x1 x2 r_7 (-2) (-2) 1))))) (dt_r _)))))))
set_option maxHeartbeats 4000000 in
theorem dl_X7_farthest_L29 (s0 : Md) {O : Type} {G_post G2_post : Int32 → (O → Prop) → Prop} {G_e101 G2_e101 : Int32 → Int32 → Int32 → Int32 → Int32 → (O → Prop) → Prop} (h_post : ∀ v0, dt (G_post v0) (G2_post v0)) (h_e101 : ∀ v0 v1 v2 v3 v4, dt (G_e101 v0 v1 v2 v3 v4) (G2_e101 v0 v1 v2 v3 v4)) : ∀ (n m : Nat) (z1 : Int32) (z2 : Int32) (z3 : Int32) (z4 : Int32) (z5 : Int32), dt (fun P : O → Prop => wp_X7_farthest_L29 s0 (fun v0 => G_post v0 P) (fun v0 v1 v2 v3 v4 => G_e101 v0 v1 v2 v3 v4 P) n z1 z2 z3 z4 z5) (fun P : O → Prop => wp_X7_farthest_L29 s0 (fun v0 => G2_post v0 P) (fun v0 v1 v2 v3 v4 => G2_e101 v0 v1 v2 v3 v4 P) m z1 z2 z3 z4 z5) := by
  intro n
  induction n with
  | zero => exact fun _ _ _ _ _ _ => dt_F
  | succ n29 ih =>
    intro m z1 z2 z3 z4 z5
    have key : ∀ m9 : Nat, dt (fun P : O → Prop => wp_X7_farthest_L29 s0 (fun v0 => G_post v0 P) (fun v0 v1 v2 v3 v4 => G_e101 v0 v1 v2 v3 v4 P) (n29 + 1) z1 z2 z3 z4 z5) (fun P : O → Prop => wp_X7_farthest_L29 s0 (fun v0 => G2_post v0 P) (fun v0 v1 v2 v3 v4 => G2_e101 v0 v1 v2 v3 v4 P) (m9 + 1) z1 z2 z3 z4 z5) := by
      intro m9
      unfold wp_X7_farthest_L29
      exact (dt_p (h_e101 z1 z2 z3 z4 z5) (dt_b1 (F := fun k => wp_X7_flapFor k s0 z1 z5) (dt_X7_flapFor s0 z1 z5) (fun r_8 => (dt_p (ih m9 z1 z2 z3 z4 (z5 + 1)) (dt_b1 (F := fun k => wp_X7_of k s0 z1 (2 : Int32)) (dt_X7_of s0 z1 (2 : Int32)) (fun r_11 => (dt_b1 (F := fun k => wp_X7_flaps k s0 z1) (dt_X7_flaps s0 z1) (fun r_13 => (dt_b1 (F := fun k => wp_X7_on k r_11 r_8 r_13) (dt_X7_on r_11 r_8 r_13) (fun r_15 => (dt_p (dt_b1 (F := fun k => wp_X7_of k s0 z1 (2 : Int32)) (dt_X7_of s0 z1 (2 : Int32)) (fun r_18 => (dt_b1 (F := fun k => wp_X7_flaps k s0 z1) (dt_X7_flaps s0 z1) (fun r_20 => (dt_b1 (F := fun k => wp_X7_on k r_18 r_8 r_20) (dt_X7_on r_18 r_8 r_20) (fun r_22 => (ih m9 z1 z2 r_22 z5 (z5 + 1)))))))) (ih m9 z1 z2 z3 z4 (z5 + 1)))))))))))))
    cases m with
    | zero => exact dt_0 (key 0)
    | succ m9 => exact key m9
set_option maxHeartbeats 4000000 in
theorem dt_X7_farthest (s0 : Md) (x1 : Int32) (x2 : Int32) : dt (fun P : Int32 → Prop => wp_X7_farthest (fun a0 => P a0) s0 x1 x2) (fun P : Int32 → Prop => wp_X7_farthest (fun a0 => P a0) s0 x1 x2) := by
  unfold wp_X7_farthest
  exact (dt_b1 (F := fun k => wp_X7_isCell k s0 x1) (dt_X7_isCell s0 x1) (fun r_1 => (dt_p (dt_r _) (dt_b1 (F := fun k => wp_X7_in k (Int32.toInt64 x2) (0 : Int64) (1 : Int64)) (dt_X7_in (Int32.toInt64 x2) (0 : Int64) (1 : Int64)) (fun r_4 => (dt_n (dt_x (fun n29 m_n29 => (dl_X7_farthest_L29 s0 (fun v0 => (dt_r _)) (fun z1 z2 z3 z4 z5 => (dt_n (dt_r _) (dt_r _))) n29 m_n29 x1 x2 (-1) (-1) 32))) (dt_r _)))))))
set_option maxHeartbeats 4000000 in
theorem dl_X7_hasElsewhere_L2 (s0 : Md) {O : Type} {G_post G2_post : Int32 → (O → Prop) → Prop} {G_e32 G2_e32 : Int32 → Int32 → Int32 → (O → Prop) → Prop} (h_post : ∀ v0, dt (G_post v0) (G2_post v0)) (h_e32 : ∀ v0 v1 v2, dt (G_e32 v0 v1 v2) (G2_e32 v0 v1 v2)) : ∀ (n m : Nat) (z1 : Int32) (z2 : Int32) (z3 : Int32), dt (fun P : O → Prop => wp_X7_hasElsewhere_L2 s0 (fun v0 => G_post v0 P) (fun v0 v1 v2 => G_e32 v0 v1 v2 P) n z1 z2 z3) (fun P : O → Prop => wp_X7_hasElsewhere_L2 s0 (fun v0 => G2_post v0 P) (fun v0 v1 v2 => G2_e32 v0 v1 v2 P) m z1 z2 z3) := by
  intro n
  induction n with
  | zero => exact fun _ _ _ _ => dt_F
  | succ n2 ih =>
    intro m z1 z2 z3
    have key : ∀ m9 : Nat, dt (fun P : O → Prop => wp_X7_hasElsewhere_L2 s0 (fun v0 => G_post v0 P) (fun v0 v1 v2 => G_e32 v0 v1 v2 P) (n2 + 1) z1 z2 z3) (fun P : O → Prop => wp_X7_hasElsewhere_L2 s0 (fun v0 => G2_post v0 P) (fun v0 v1 v2 => G2_e32 v0 v1 v2 P) (m9 + 1) z1 z2 z3) := by
      intro m9
      unfold wp_X7_hasElsewhere_L2
      exact (dt_b1 (F := fun k => wp_X7_drums k s0) (dt_X7_drums s0) (fun r_1 => (dt_p (h_e32 z1 z2 z3) (dt_p (ih m9 z1 z2 (z3 + 1)) (dt_b1 (F := fun k => wp_X7_manyWith k s0 z3 z2) (dt_X7_manyWith s0 z3 z2) (fun r_5 => (dt_p (ih m9 z1 z2 (z3 + 1)) (h_post 1))))))))
    cases m with
    | zero => exact dt_0 (key 0)
    | succ m9 => exact key m9
set_option maxHeartbeats 4000000 in
theorem dt_X7_hasElsewhere (s0 : Md) (x1 : Int32) (x2 : Int32) : dt (fun P : Int32 → Prop => wp_X7_hasElsewhere (fun a0 => P a0) s0 x1 x2) (fun P : Int32 → Prop => wp_X7_hasElsewhere (fun a0 => P a0) s0 x1 x2) := by
  unfold wp_X7_hasElsewhere
  exact (dt_x (fun n2 m_n2 => (dl_X7_hasElsewhere_L2 s0 (fun v0 => (dt_r _)) (fun z1 z2 z3 => (dt_r _)) n2 m_n2 x1 x2 0)))
set_option maxHeartbeats 4000000 in
theorem dl_X7_lacks_L26 (s0 : Md) {O : Type} {G_post G2_post : Int32 → (O → Prop) → Prop} {G_e117 G2_e117 : Int32 → Int32 → Int32 → Int32 → (O → Prop) → Prop} (h_post : ∀ v0, dt (G_post v0) (G2_post v0)) (h_e117 : ∀ v0 v1 v2 v3, dt (G_e117 v0 v1 v2 v3) (G2_e117 v0 v1 v2 v3)) : ∀ (n m : Nat) (z1 : Int32) (z2 : Int32) (z3 : Int32) (z4 : Int32), dt (fun P : O → Prop => wp_X7_lacks_L26 s0 (fun v0 => G_post v0 P) (fun v0 v1 v2 v3 => G_e117 v0 v1 v2 v3 P) n z1 z2 z3 z4) (fun P : O → Prop => wp_X7_lacks_L26 s0 (fun v0 => G2_post v0 P) (fun v0 v1 v2 v3 => G2_e117 v0 v1 v2 v3 P) m z1 z2 z3 z4) := by
  intro n
  induction n with
  | zero => exact fun _ _ _ _ _ => dt_F
  | succ n26 ih =>
    intro m z1 z2 z3 z4
    have key : ∀ m9 : Nat, dt (fun P : O → Prop => wp_X7_lacks_L26 s0 (fun v0 => G_post v0 P) (fun v0 v1 v2 v3 => G_e117 v0 v1 v2 v3 P) (n26 + 1) z1 z2 z3 z4) (fun P : O → Prop => wp_X7_lacks_L26 s0 (fun v0 => G2_post v0 P) (fun v0 v1 v2 v3 => G2_e117 v0 v1 v2 v3 P) (m9 + 1) z1 z2 z3 z4) := by
      intro m9
      unfold wp_X7_lacks_L26
      exact (dt_p (h_e117 z1 z2 z3 z4) (dt_b1 (F := fun k => wp_X7_of k s0 z1 (0 : Int32)) (dt_X7_of s0 z1 (0 : Int32)) (fun r_8 => (dt_b1 (F := fun k => wp_X7_manyWith k s0 r_8 z4) (dt_X7_manyWith s0 r_8 z4) (fun r_10 => (dt_p (dt_n (dt_b1 (F := fun k => wp_X7_of k s0 z1 (0 : Int32)) (dt_X7_of s0 z1 (0 : Int32)) (fun r_14 => (dt_b1 (F := fun k => wp_X7_hasElsewhere k s0 r_14 z4) (dt_X7_hasElsewhere s0 r_14 z4) (fun r_16 => (dt_p (ih m9 z1 z2 (z3 + 0) (z4 + 1)) (ih m9 z1 z2 (z3 + 1) (z4 + 1))))))) (ih m9 z1 z2 (z3 + 0) (z4 + 1))) (dt_n (ih m9 z1 z2 (z3 + 0) (z4 + 1)) (dt_b1 (F := fun k => wp_X7_flapFor k s0 z1 z4) (dt_X7_flapFor s0 z1 z4) (fun r_20 => (dt_n (ih m9 z1 z2 (z3 + 0) (z4 + 1)) (ih m9 z1 z2 (z3 + 1) (z4 + 1))))))))))))
    cases m with
    | zero => exact dt_0 (key 0)
    | succ m9 => exact key m9
set_option maxHeartbeats 4000000 in
theorem dt_X7_lacks (s0 : Md) (x1 : Int32) (x2 : Int32) : dt (fun P : Int32 → Prop => wp_X7_lacks (fun a0 => P a0) s0 x1 x2) (fun P : Int32 → Prop => wp_X7_lacks (fun a0 => P a0) s0 x1 x2) := by
  unfold wp_X7_lacks
  exact (dt_b1 (F := fun k => wp_X7_isCell k s0 x1) (dt_X7_isCell s0 x1) (fun r_1 => (dt_p (dt_r _) (dt_b1 (F := fun k => wp_X7_in k (Int32.toInt64 x2) (0 : Int64) (1 : Int64)) (dt_X7_in (Int32.toInt64 x2) (0 : Int64) (1 : Int64)) (fun r_4 => (dt_n (dt_x (fun n26 m_n26 => (dl_X7_lacks_L26 s0 (fun v0 => (dt_r _)) (fun z1 z2 z3 z4 => (dt_r _)) n26 m_n26 x1 x2 0 32))) (dt_r _)))))))
set_option maxHeartbeats 4000000 in
theorem dl_X7_lays_L3  {O : Type} {G_post G2_post : Md → (O → Prop) → Prop} {G_e36 G2_e36 : Md → Int32 → Int32 → (O → Prop) → Prop} (h_post : ∀ v0, dt (G_post v0) (G2_post v0)) (h_e36 : ∀ v0 v1 v2, dt (G_e36 v0 v1 v2) (G2_e36 v0 v1 v2)) : ∀ (n m : Nat) (t0 : Md) (z1 : Int32) (z2 : Int32), dt (fun P : O → Prop => wp_X7_lays_L3 (fun v0 => G_post v0 P) (fun v0 v1 v2 => G_e36 v0 v1 v2 P) n t0 z1 z2) (fun P : O → Prop => wp_X7_lays_L3 (fun v0 => G2_post v0 P) (fun v0 v1 v2 => G2_e36 v0 v1 v2 P) m t0 z1 z2) := by
  intro n
  induction n with
  | zero => exact fun _ _ _ _ => dt_F
  | succ n3 ih =>
    intro m t0 z1 z2
    have key : ∀ m9 : Nat, dt (fun P : O → Prop => wp_X7_lays_L3 (fun v0 => G_post v0 P) (fun v0 v1 v2 => G_e36 v0 v1 v2 P) (n3 + 1) t0 z1 z2) (fun P : O → Prop => wp_X7_lays_L3 (fun v0 => G2_post v0 P) (fun v0 v1 v2 => G2_e36 v0 v1 v2 P) (m9 + 1) t0 z1 z2) := by
      intro m9
      unfold wp_X7_lays_L3
      exact (dt_p (h_e36 t0 z1 z2) (dt_c (ih m9 ((va_up t0.1 5 ((t0.1 5) + 1)), t0.2.1, t0.2.2.1, (va_up t0.2.2.2 2 (upd (t0.2.2.2 2) (Int32.toNatClampNeg (t0.1 5)) (vp_nar .byte (Int8.toInt32 (Int32.toInt8 (z1 >>> (z2 &&& 31)))))))) z1 (z2 + (-8)))))
    cases m with
    | zero => exact dt_0 (key 0)
    | succ m9 => exact key m9
set_option maxHeartbeats 4000000 in
theorem dt_X7_lays (s0 : Md) (x1 : Int32) : dt (fun P : Md → Prop => wp_X7_lays (fun a0 => P a0) s0 x1) (fun P : Md → Prop => wp_X7_lays (fun a0 => P a0) s0 x1) := by
  unfold wp_X7_lays
  exact (dt_x (fun n3 m_n3 => (dl_X7_lays_L3  (fun v0 => (dt_r _)) (fun t0 z1 z2 => (dt_r _)) n3 m_n3 s0 x1 24)))
set_option maxHeartbeats 4000000 in
theorem dt_X7_feed (s0 : Md) (x1 : Int32) (x2 : Int32) (x3 : Int32) (x4 : Int32) (x5 : Int32) : dt (fun P : (Int32 × Md) → Prop => wp_X7_feed (fun a0 a1 => P (a0, a1)) s0 x1 x2 x3 x4 x5) (fun P : (Int32 × Md) → Prop => wp_X7_feed (fun a0 a1 => P (a0, a1)) s0 x1 x2 x3 x4 x5) := by
  unfold wp_X7_feed
  exact (dt_p (dt_b1 (F := fun k => wp_X7_lays k s0 x1) (dt_X7_lays s0 x1) (fun u_3 => (dt_b1 (F := fun k => wp_X7_lays k u_3 x2) (dt_X7_lays u_3 x2) (fun u_5 => (dt_b1 (F := fun k => wp_X7_lays k u_5 x3) (dt_X7_lays u_5 x3) (fun u_7 => (dt_b1 (F := fun k => wp_X7_lays k u_7 x4) (dt_X7_lays u_7 x4) (fun u_9 => (dt_b1 (F := fun k => wp_X7_lays k u_9 x5) (dt_X7_lays u_9 x5) (fun u_11 => (dt_r _))))))))))) (dt_r _))
set_option maxHeartbeats 4000000 in
theorem dt_X7_end (s0 : Md) (x1 : Int32) : dt (fun P : (Int32 × Md) → Prop => wp_X7_end (fun a0 a1 => P (a0, a1)) s0 x1) (fun P : (Int32 × Md) → Prop => wp_X7_end (fun a0 a1 => P (a0, a1)) s0 x1) := by
  unfold wp_X7_end
  exact (dt_b1 (F := fun k => wp_X7_in k (Int32.toInt64 x1) (0 : Int64) (Int32.toInt64 (s0.1 5))) (dt_X7_in (Int32.toInt64 x1) (0 : Int64) (Int32.toInt64 (s0.1 5))) (fun r_1 => (dt_n (dt_r _) (dt_r _))))
set_option maxHeartbeats 4000000 in
theorem dt_X7_byteAt (s0 : Md) (x1 : Int32) : dt (fun P : Int32 → Prop => wp_X7_byteAt (fun a0 => P a0) s0 x1) (fun P : Int32 → Prop => wp_X7_byteAt (fun a0 => P a0) s0 x1) := by
  unfold wp_X7_byteAt
  exact (dt_p (dt_r _) (dt_c (dt_r _)))
set_option maxHeartbeats 4000000 in
theorem dl_X7_nextByte_L0  {O : Type} {G_post G2_post : Int32 → Md → (O → Prop) → Prop} {G_e26 G2_e26 : Md → (O → Prop) → Prop} (h_post : ∀ v0 v1, dt (G_post v0 v1) (G2_post v0 v1)) (h_e26 : ∀ v0, dt (G_e26 v0) (G2_e26 v0)) : ∀ (n m : Nat) (t0 : Md), dt (fun P : O → Prop => wp_X7_nextByte_L0 (fun v0 v1 => G_post v0 v1 P) (fun v0 => G_e26 v0 P) n t0) (fun P : O → Prop => wp_X7_nextByte_L0 (fun v0 v1 => G2_post v0 v1 P) (fun v0 => G2_e26 v0 P) m t0) := by
  intro n
  induction n with
  | zero => exact fun _ _ => dt_F
  | succ n0 ih =>
    intro m t0
    have key : ∀ m9 : Nat, dt (fun P : O → Prop => wp_X7_nextByte_L0 (fun v0 v1 => G_post v0 v1 P) (fun v0 => G_e26 v0 P) (n0 + 1) t0) (fun P : O → Prop => wp_X7_nextByte_L0 (fun v0 v1 => G2_post v0 v1 P) (fun v0 => G2_e26 v0 P) (m9 + 1) t0) := by
      intro m9
      unfold wp_X7_nextByte_L0
      exact (dt_b1 (F := fun k => wp_X7_byteAt k t0 (t0.1 6)) (dt_X7_byteAt t0 (t0.1 6)) (fun r_1 => (dt_n (h_e26 t0) (ih m9 ((va_up t0.1 6 ((t0.1 6) + 1)), t0.2.1, t0.2.2.1, t0.2.2.2)))))
    cases m with
    | zero => exact dt_0 (key 0)
    | succ m9 => exact key m9
set_option maxHeartbeats 4000000 in
theorem dt_X7_nextByte (s0 : Md) : dt (fun P : (Int32 × Md) → Prop => wp_X7_nextByte (fun a0 a1 => P (a0, a1)) s0) (fun P : (Int32 × Md) → Prop => wp_X7_nextByte (fun a0 a1 => P (a0, a1)) s0) := by
  unfold wp_X7_nextByte
  exact (dt_x (fun n0 m_n0 => (dl_X7_nextByte_L0  (fun v0 v1 => (dt_r _)) (fun t0 => (dt_b1 (F := fun k => wp_X7_byteAt k t0 (t0.1 6)) (dt_X7_byteAt t0 (t0.1 6)) (fun r_4 => (dt_r _)))) n0 m_n0 s0)))
set_option maxHeartbeats 4000000 in
theorem dt_X7_fails (s0 : Md) (x1 : Int32) (x2 : Int32) : dt (fun P : (Int32 × Md) → Prop => wp_X7_fails (fun a0 a1 => P (a0, a1)) s0 x1 x2) (fun P : (Int32 × Md) → Prop => wp_X7_fails (fun a0 a1 => P (a0, a1)) s0 x1 x2) := by
  unfold wp_X7_fails
  exact (dt_r _)
set_option maxHeartbeats 4000000 in
theorem dl_X7_isWord_L22 (i1 : Nat) {O : Type} {G_post G2_post : Int32 → Md → (O → Prop) → Prop} {G_e51 G2_e51 : Md → Int32 → Int32 → (O → Prop) → Prop} (h_post : ∀ v0 v1, dt (G_post v0 v1) (G2_post v0 v1)) (h_e51 : ∀ v0 v1 v2, dt (G_e51 v0 v1 v2) (G2_e51 v0 v1 v2)) : ∀ (n m : Nat) (t0 : Md) (z2 : Int32) (z3 : Int32), dt (fun P : O → Prop => wp_X7_isWord_L22 i1 (fun v0 v1 => G_post v0 v1 P) (fun v0 v1 v2 => G_e51 v0 v1 v2 P) n t0 z2 z3) (fun P : O → Prop => wp_X7_isWord_L22 i1 (fun v0 v1 => G2_post v0 v1 P) (fun v0 v1 v2 => G2_e51 v0 v1 v2 P) m t0 z2 z3) := by
  intro n
  induction n with
  | zero => exact fun _ _ _ _ => dt_F
  | succ n22 ih =>
    intro m t0 z2 z3
    have key : ∀ m9 : Nat, dt (fun P : O → Prop => wp_X7_isWord_L22 i1 (fun v0 v1 => G_post v0 v1 P) (fun v0 v1 v2 => G_e51 v0 v1 v2 P) (n22 + 1) t0 z2 z3) (fun P : O → Prop => wp_X7_isWord_L22 i1 (fun v0 v1 => G2_post v0 v1 P) (fun v0 v1 v2 => G2_e51 v0 v1 v2 P) (m9 + 1) t0 z2 z3) := by
      intro m9
      unfold wp_X7_isWord_L22
      exact (dt_b1 (F := fun k => wp_J0_length_8abf5 k i1) (dt_J0_length_8abf5 i1) (fun r_4 => (dt_p (h_e51 t0 z2 z3) (dt_b1 (F := fun k => wp_X7_byteAt k t0 (z2 + z3)) (dt_X7_byteAt t0 (z2 + z3)) (fun r_7 => (dt_b1 (F := fun k => wp_J0_charAt_5068e k i1 z3) (dt_J0_charAt_5068e i1 z3) (fun r_9 => (dt_n (h_e51 t0 z2 z3) (ih m9 t0 z2 (z3 + 1))))))))))
    cases m with
    | zero => exact dt_0 (key 0)
    | succ m9 => exact key m9
set_option maxHeartbeats 4000000 in
theorem dl_X7_isWord_L22b (i1 : Nat) {O : Type} {G_post G2_post : Int32 → Md → (O → Prop) → Prop} {G_e51 G2_e51 : Md → Int32 → Int32 → (O → Prop) → Prop} (h_post : ∀ v0 v1, dt (G_post v0 v1) (G2_post v0 v1)) (h_e51 : ∀ v0 v1 v2, dt (G_e51 v0 v1 v2) (G2_e51 v0 v1 v2)) : ∀ (n m : Nat) (t0 : Md) (z2 : Int32) (z3 : Int32), dt (fun P : O → Prop => wp_X7_isWord_L22b i1 (fun v0 v1 => G_post v0 v1 P) (fun v0 v1 v2 => G_e51 v0 v1 v2 P) n t0 z2 z3) (fun P : O → Prop => wp_X7_isWord_L22b i1 (fun v0 v1 => G2_post v0 v1 P) (fun v0 v1 v2 => G2_e51 v0 v1 v2 P) m t0 z2 z3) := by
  intro n
  induction n with
  | zero => exact fun _ _ _ _ => dt_F
  | succ n22 ih =>
    intro m t0 z2 z3
    have key : ∀ m9 : Nat, dt (fun P : O → Prop => wp_X7_isWord_L22b i1 (fun v0 v1 => G_post v0 v1 P) (fun v0 v1 v2 => G_e51 v0 v1 v2 P) (n22 + 1) t0 z2 z3) (fun P : O → Prop => wp_X7_isWord_L22b i1 (fun v0 v1 => G2_post v0 v1 P) (fun v0 v1 v2 => G2_e51 v0 v1 v2 P) (m9 + 1) t0 z2 z3) := by
      intro m9
      unfold wp_X7_isWord_L22b
      exact (dt_b1 (F := fun k => wp_J0_length_8abf5 k i1) (dt_J0_length_8abf5 i1) (fun r_20 => (dt_p (h_e51 t0 z2 z3) (dt_b1 (F := fun k => wp_X7_byteAt k t0 (z2 + z3)) (dt_X7_byteAt t0 (z2 + z3)) (fun r_23 => (dt_b1 (F := fun k => wp_J0_charAt_5068e k i1 z3) (dt_J0_charAt_5068e i1 z3) (fun r_25 => (dt_n (h_e51 t0 z2 z3) (ih m9 t0 z2 (z3 + 1))))))))))
    cases m with
    | zero => exact dt_0 (key 0)
    | succ m9 => exact key m9
set_option maxHeartbeats 4000000 in
theorem dt_X7_isWord (s0 : Md) (i1 : Nat) : dt (fun P : (Int32 × Md) → Prop => wp_X7_isWord (fun a0 a1 => P (a0, a1)) s0 i1) (fun P : (Int32 × Md) → Prop => wp_X7_isWord (fun a0 a1 => P (a0, a1)) s0 i1) := by
  unfold wp_X7_isWord
  exact (dt_b2 (F := fun k => wp_X7_nextByte k s0) (dt_X7_nextByte s0) (fun r_1 u_2 => (dt_n (dt_x (fun n22 m_n22 => (dl_X7_isWord_L22 i1 (fun v0 v1 => (dt_r _)) (fun t0 z2 z3 => (dt_b1 (F := fun k => wp_J0_length_8abf5 k i1) (dt_J0_length_8abf5 i1) (fun r_12 => (dt_n (dt_r _) (dt_b1 (F := fun k => wp_X7_byteAt k t0 (z2 + z3)) (dt_X7_byteAt t0 (z2 + z3)) (fun r_15 => (dt_b1 (F := fun k => wp_X7_in k (Int32.toInt64 r_15) (97 : Int64) (122 : Int64)) (dt_X7_in (Int32.toInt64 r_15) (97 : Int64) (122 : Int64)) (fun r_17 => (dt_n (dt_r _) (dt_r _)))))))))) n22 m_n22 u_2 (u_2.1 6) 0))) (dt_x (fun n22 m_n22 => (dl_X7_isWord_L22b i1 (fun v0 v1 => (dt_r _)) (fun t0 z2 z3 => (dt_b1 (F := fun k => wp_J0_length_8abf5 k i1) (dt_J0_length_8abf5 i1) (fun r_28 => (dt_n (dt_r _) (dt_b1 (F := fun k => wp_X7_byteAt k t0 (z2 + z3)) (dt_X7_byteAt t0 (z2 + z3)) (fun r_31 => (dt_b1 (F := fun k => wp_X7_in k (Int32.toInt64 r_31) (97 : Int64) (122 : Int64)) (dt_X7_in (Int32.toInt64 r_31) (97 : Int64) (122 : Int64)) (fun r_33 => (dt_n (dt_r _) (dt_r _)))))))))) n22 m_n22 u_2 (u_2.1 5) 0))))))
set_option maxHeartbeats 4000000 in
theorem dt_X7_takesWord (s0 : Md) (i1 : Nat) : dt (fun P : (Int32 × Md) → Prop => wp_X7_takesWord (fun a0 a1 => P (a0, a1)) s0 i1) (fun P : (Int32 × Md) → Prop => wp_X7_takesWord (fun a0 a1 => P (a0, a1)) s0 i1) := by
  unfold wp_X7_takesWord
  exact (dt_b2 (F := fun k => wp_X7_isWord k s0 i1) (dt_X7_isWord s0 i1) (fun r_1 u_2 => (dt_p (dt_c (dt_r _)) (dt_b1 (F := fun k => wp_J0_length_8abf5 k i1) (dt_J0_length_8abf5 i1) (fun r_5 => (dt_c (dt_r _)))))))
set_option maxHeartbeats 4000000 in
theorem dt_X7_mustWord (s0 : Md) (i1 : Nat) : dt (fun P : (Int32 × Md) → Prop => wp_X7_mustWord (fun a0 a1 => P (a0, a1)) s0 i1) (fun P : (Int32 × Md) → Prop => wp_X7_mustWord (fun a0 a1 => P (a0, a1)) s0 i1) := by
  unfold wp_X7_mustWord
  exact (dt_b2 (F := fun k => wp_X7_takesWord k s0 i1) (dt_X7_takesWord s0 i1) (fun r_1 u_2 => (dt_n (dt_r _) (dt_b2 (F := fun k => wp_X7_fails k u_2 (1 : Int32) (u_2.1 6)) (dt_X7_fails u_2 (1 : Int32) (u_2.1 6)) (fun r_4 u_5 => (dt_p (dt_r _) (dt_r _)))))))
set_option maxHeartbeats 4000000 in
theorem dt_X7_takesByte (s0 : Md) (x1 : Int32) : dt (fun P : (Int32 × Md) → Prop => wp_X7_takesByte (fun a0 a1 => P (a0, a1)) s0 x1) (fun P : (Int32 × Md) → Prop => wp_X7_takesByte (fun a0 a1 => P (a0, a1)) s0 x1) := by
  unfold wp_X7_takesByte
  exact (dt_b2 (F := fun k => wp_X7_nextByte k s0) (dt_X7_nextByte s0) (fun r_1 u_2 => (dt_n (dt_r _) (dt_r _))))
set_option maxHeartbeats 4000000 in
theorem dt_X7_mustByte (s0 : Md) (x1 : Int32) : dt (fun P : (Int32 × Md) → Prop => wp_X7_mustByte (fun a0 a1 => P (a0, a1)) s0 x1) (fun P : (Int32 × Md) → Prop => wp_X7_mustByte (fun a0 a1 => P (a0, a1)) s0 x1) := by
  unfold wp_X7_mustByte
  exact (dt_b2 (F := fun k => wp_X7_takesByte k s0 x1) (dt_X7_takesByte s0 x1) (fun r_1 u_2 => (dt_n (dt_r _) (dt_b2 (F := fun k => wp_X7_fails k u_2 (1 : Int32) (u_2.1 6)) (dt_X7_fails u_2 (1 : Int32) (u_2.1 6)) (fun r_4 u_5 => (dt_p (dt_r _) (dt_r _)))))))
set_option maxHeartbeats 4000000 in
theorem dl_X7_readsNumber_L40  {O : Type} {G_post G2_post : Int32 → Md → (O → Prop) → Prop} {G_e107 G2_e107 : Md → Int32 → Int32 → (O → Prop) → Prop} (h_post : ∀ v0 v1, dt (G_post v0 v1) (G2_post v0 v1)) (h_e107 : ∀ v0 v1 v2, dt (G_e107 v0 v1 v2) (G2_e107 v0 v1 v2)) : ∀ (n m : Nat) (t0 : Md) (z1 : Int32) (z2 : Int32), dt (fun P : O → Prop => wp_X7_readsNumber_L40 (fun v0 v1 => G_post v0 v1 P) (fun v0 v1 v2 => G_e107 v0 v1 v2 P) n t0 z1 z2) (fun P : O → Prop => wp_X7_readsNumber_L40 (fun v0 v1 => G2_post v0 v1 P) (fun v0 v1 v2 => G2_e107 v0 v1 v2 P) m t0 z1 z2) := by
  intro n
  induction n with
  | zero => exact fun _ _ _ _ => dt_F
  | succ n40 ih =>
    intro m t0 z1 z2
    have key : ∀ m9 : Nat, dt (fun P : O → Prop => wp_X7_readsNumber_L40 (fun v0 v1 => G_post v0 v1 P) (fun v0 v1 v2 => G_e107 v0 v1 v2 P) (n40 + 1) t0 z1 z2) (fun P : O → Prop => wp_X7_readsNumber_L40 (fun v0 v1 => G2_post v0 v1 P) (fun v0 v1 v2 => G2_e107 v0 v1 v2 P) (m9 + 1) t0 z1 z2) := by
      intro m9
      unfold wp_X7_readsNumber_L40
      exact (dt_b1 (F := fun k => wp_X7_byteAt k t0 (t0.1 6)) (dt_X7_byteAt t0 (t0.1 6)) (fun r_6 => (dt_b1 (F := fun k => wp_X7_in k (Int32.toInt64 r_6) (48 : Int64) (57 : Int64)) (dt_X7_in (Int32.toInt64 r_6) (48 : Int64) (57 : Int64)) (fun r_8 => (dt_p (h_e107 t0 z1 z2) (dt_p (ih m9 ((va_up t0.1 6 ((t0.1 6) + 1)), t0.2.1, t0.2.2.1, t0.2.2.2) z1 z2) (dt_b1 (F := fun k => wp_X7_byteAt k t0 (t0.1 6)) (dt_X7_byteAt t0 (t0.1 6)) (fun r_12 => (ih m9 ((va_up (va_up t0.1 6 ((t0.1 6) + 1)) 8 (((10 * (t0.1 8)) + r_12) - 48)), t0.2.1, t0.2.2.1, t0.2.2.2) z1 z2)))))))))
    cases m with
    | zero => exact dt_0 (key 0)
    | succ m9 => exact key m9
set_option maxHeartbeats 4000000 in
theorem dt_X7_readsNumber (s0 : Md) (x1 : Int32) (x2 : Int32) : dt (fun P : (Int32 × Md) → Prop => wp_X7_readsNumber (fun a0 a1 => P (a0, a1)) s0 x1 x2) (fun P : (Int32 × Md) → Prop => wp_X7_readsNumber (fun a0 a1 => P (a0, a1)) s0 x1 x2) := by
  unfold wp_X7_readsNumber
  exact (dt_b2 (F := fun k => wp_X7_nextByte k s0) (dt_X7_nextByte s0) (fun r_1 u_2 => (dt_b1 (F := fun k => wp_X7_in k (Int32.toInt64 r_1) (48 : Int64) (57 : Int64)) (dt_X7_in (Int32.toInt64 r_1) (48 : Int64) (57 : Int64)) (fun r_3 => (dt_n (dt_x (fun n40 m_n40 => (dl_X7_readsNumber_L40  (fun v0 v1 => (dt_r _)) (fun t0 z1 z2 => (dt_b1 (F := fun k => wp_X7_in k (Int32.toInt64 (t0.1 8)) (Int32.toInt64 z1) (Int32.toInt64 z2)) (dt_X7_in (Int32.toInt64 (t0.1 8)) (Int32.toInt64 z1) (Int32.toInt64 z2)) (fun r_14 => (dt_n (dt_r _) (dt_b2 (F := fun k => wp_X7_fails k t0 (2 : Int32) (t0.1 9)) (dt_X7_fails t0 (2 : Int32) (t0.1 9)) (fun r_17 u_18 => (dt_p (dt_r _) (dt_r _)))))))) n40 m_n40 ((va_up (va_up u_2.1 8 0) 9 (u_2.1 6)), u_2.2.1, u_2.2.2.1, u_2.2.2.2) x1 x2))) (dt_b2 (F := fun k => wp_X7_fails k u_2 (1 : Int32) (u_2.1 6)) (dt_X7_fails u_2 (1 : Int32) (u_2.1 6)) (fun r_20 u_21 => (dt_c (dt_r _)))))))))
set_option maxHeartbeats 4000000 in
theorem dl_X7_readsQuoted_L24  {O : Type} {G_post G2_post : Int32 → Md → (O → Prop) → Prop} {G_e102 G2_e102 : Md → Int32 → Int32 → (O → Prop) → Prop} (h_post : ∀ v0 v1, dt (G_post v0 v1) (G2_post v0 v1)) (h_e102 : ∀ v0 v1 v2, dt (G_e102 v0 v1 v2) (G2_e102 v0 v1 v2)) : ∀ (n m : Nat) (t0 : Md) (z1 : Int32) (z2 : Int32), dt (fun P : O → Prop => wp_X7_readsQuoted_L24 (fun v0 v1 => G_post v0 v1 P) (fun v0 v1 v2 => G_e102 v0 v1 v2 P) n t0 z1 z2) (fun P : O → Prop => wp_X7_readsQuoted_L24 (fun v0 v1 => G2_post v0 v1 P) (fun v0 v1 v2 => G2_e102 v0 v1 v2 P) m t0 z1 z2) := by
  intro n
  induction n with
  | zero => exact fun _ _ _ _ => dt_F
  | succ n24 ih =>
    intro m t0 z1 z2
    have key : ∀ m9 : Nat, dt (fun P : O → Prop => wp_X7_readsQuoted_L24 (fun v0 v1 => G_post v0 v1 P) (fun v0 v1 v2 => G_e102 v0 v1 v2 P) (n24 + 1) t0 z1 z2) (fun P : O → Prop => wp_X7_readsQuoted_L24 (fun v0 v1 => G2_post v0 v1 P) (fun v0 v1 v2 => G2_e102 v0 v1 v2 P) (m9 + 1) t0 z1 z2) := by
      intro m9
      unfold wp_X7_readsQuoted_L24
      exact (dt_b1 (F := fun k => wp_X7_byteAt k t0 (t0.1 6)) (dt_X7_byteAt t0 (t0.1 6)) (fun r_4 => (dt_p (h_e102 t0 z1 z2) (dt_b1 (F := fun k => wp_X7_byteAt k t0 (t0.1 6)) (dt_X7_byteAt t0 (t0.1 6)) (fun r_7 => (dt_b1 (F := fun k => wp_X7_isSign k r_7) (dt_X7_isSign r_7) (fun r_9 => (dt_n (dt_n (ih m9 ((va_up (va_up t0.1 6 ((t0.1 6) + 1)) 11 ((t0.1 11) + 1)), t0.2.1, t0.2.2.1, t0.2.2.2) z1 z2) (dt_b2 (F := fun k => wp_X7_fails k t0 (2 : Int32) (t0.1 6)) (dt_X7_fails t0 (2 : Int32) (t0.1 6)) (fun r_13 u_14 => (dt_c (h_post r_13 u_14))))) (dt_b2 (F := fun k => wp_X7_fails k t0 (1 : Int32) (t0.1 6)) (dt_X7_fails t0 (1 : Int32) (t0.1 6)) (fun r_16 u_17 => (dt_c (h_post r_16 u_17))))))))))))
    cases m with
    | zero => exact dt_0 (key 0)
    | succ m9 => exact key m9
set_option maxHeartbeats 4000000 in
theorem dt_X7_readsQuoted (s0 : Md) (x1 : Int32) (x2 : Int32) : dt (fun P : (Int32 × Md) → Prop => wp_X7_readsQuoted (fun a0 a1 => P (a0, a1)) s0 x1 x2) (fun P : (Int32 × Md) → Prop => wp_X7_readsQuoted (fun a0 a1 => P (a0, a1)) s0 x1 x2) := by
  unfold wp_X7_readsQuoted
  exact (dt_b2 (F := fun k => wp_X7_mustByte k s0 (39 : Int32)) (dt_X7_mustByte s0 (39 : Int32)) (fun r_1 u_2 => (dt_n (dt_x (fun n24 m_n24 => (dl_X7_readsQuoted_L24  (fun v0 v1 => (dt_r _)) (fun t0 z1 z2 => (dt_p (dt_r _) (dt_b2 (F := fun k => wp_X7_fails k t0 (2 : Int32) (t0.1 6)) (dt_X7_fails t0 (2 : Int32) (t0.1 6)) (fun r_20 u_21 => (dt_c (dt_r _)))))) n24 m_n24 ((va_up (va_up u_2.1 10 (u_2.1 6)) 11 0), u_2.2.1, u_2.2.2.1, u_2.2.2.2) x1 x2))) (dt_r _))))
set_option maxHeartbeats 4000000 in
theorem dl_X7_readsDrum_L91  {O : Type} {G_post G2_post : Int32 → Md → (O → Prop) → Prop} {G_e127 G2_e127 : Md → Int32 → Int32 → Int32 → (O → Prop) → Prop} (h_post : ∀ v0 v1, dt (G_post v0 v1) (G2_post v0 v1)) (h_e127 : ∀ v0 v1 v2 v3, dt (G_e127 v0 v1 v2 v3) (G2_e127 v0 v1 v2 v3)) : ∀ (n m : Nat) (t0 : Md) (z1 : Int32) (z2 : Int32) (z3 : Int32), dt (fun P : O → Prop => wp_X7_readsDrum_L91 (fun v0 v1 => G_post v0 v1 P) (fun v0 v1 v2 v3 => G_e127 v0 v1 v2 v3 P) n t0 z1 z2 z3) (fun P : O → Prop => wp_X7_readsDrum_L91 (fun v0 v1 => G2_post v0 v1 P) (fun v0 v1 v2 v3 => G2_e127 v0 v1 v2 v3 P) m t0 z1 z2 z3) := by
  intro n
  induction n with
  | zero => exact fun _ _ _ _ _ => dt_F
  | succ n91 ih =>
    intro m t0 z1 z2 z3
    have key : ∀ m9 : Nat, dt (fun P : O → Prop => wp_X7_readsDrum_L91 (fun v0 v1 => G_post v0 v1 P) (fun v0 v1 v2 v3 => G_e127 v0 v1 v2 v3 P) (n91 + 1) t0 z1 z2 z3) (fun P : O → Prop => wp_X7_readsDrum_L91 (fun v0 v1 => G2_post v0 v1 P) (fun v0 v1 v2 v3 => G2_e127 v0 v1 v2 v3 P) (m9 + 1) t0 z1 z2 z3) := by
      intro m9
      unfold wp_X7_readsDrum_L91
      exact (dt_p (h_e127 t0 z1 z2 z3) (dt_c (dt_c (ih m9 (t0.1, t0.2.1, (va_up t0.2.2.1 0 (vp_updL (t0.2.2.1 0) (Int32.toNatClampNeg ((z2 + 2) + z3)) (Int32.toInt64 ((t0.2.2.2 2) (Int32.toNatClampNeg ((t0.1 10) + z3)))))), t0.2.2.2) z1 z2 (z3 + 1)))))
    cases m with
    | zero => exact dt_0 (key 0)
    | succ m9 => exact key m9
set_option maxHeartbeats 4000000 in
theorem dt_X7_readsDrum (s0 : Md) : dt (fun P : (Int32 × Md) → Prop => wp_X7_readsDrum (fun a0 a1 => P (a0, a1)) s0) (fun P : (Int32 × Md) → Prop => wp_X7_readsDrum (fun a0 a1 => P (a0, a1)) s0) := by
  unfold wp_X7_readsDrum
  exact (dt_b1 (F := fun k => wp_X7_drums k s0) (dt_X7_drums s0) (fun r_1 => (dt_n (dt_b2 (F := fun k => wp_X7_readsNumber k ((va_up s0.1 6 ((s0.1 6) + 4)), s0.2.1, s0.2.2.1, s0.2.2.2) (1 : Int32) (9 : Int32)) (dt_X7_readsNumber ((va_up s0.1 6 ((s0.1 6) + 4)), s0.2.1, s0.2.2.1, s0.2.2.2) (1 : Int32) (9 : Int32)) (fun r_4 u_5 => (dt_n (dt_b2 (F := fun k => wp_X7_readsQuoted k u_5 (2 : Int32) (40 : Int32)) (dt_X7_readsQuoted u_5 (2 : Int32) (40 : Int32)) (fun r_7 u_8 => (dt_n (dt_b1 (F := fun k => wp_X7_drums k u_8) (dt_X7_drums u_8) (fun r_10 => (dt_c (dt_c (dt_x (fun n91 m_n91 => (dl_X7_readsDrum_L91  (fun v0 v1 => (dt_r _)) (fun t0 z1 z2 z3 => (dt_r _)) n91 m_n91 (u_8.1, u_8.2.1, (va_up u_8.2.2.1 0 (vp_updL (vp_updL (u_8.2.2.1 0) (Int32.toNatClampNeg (8 + (42 * r_10))) (Int32.toInt64 (u_5.1 8))) (Int32.toNatClampNeg ((8 + (42 * r_10)) + 1)) (Int32.toInt64 (u_8.1 11)))), u_8.2.2.2) (u_5.1 8) (8 + (42 * r_10)) 0))))))) (dt_r _)))) (dt_r _)))) (dt_b2 (F := fun k => wp_X7_fails k s0 (3 : Int32) (s0.1 6)) (dt_X7_fails s0 (3 : Int32) (s0.1 6)) (fun r_17 u_18 => (dt_c (dt_r _)))))))
set_option maxHeartbeats 4000000 in
theorem dl_X7_readsCells_L78  {O : Type} {G_post G2_post : Int32 → Md → (O → Prop) → Prop} {G_e99 G2_e99 : Md → Int32 → Int32 → Int32 → Int32 → (O → Prop) → Prop} (h_post : ∀ v0 v1, dt (G_post v0 v1) (G2_post v0 v1)) (h_e99 : ∀ v0 v1 v2 v3 v4, dt (G_e99 v0 v1 v2 v3 v4) (G2_e99 v0 v1 v2 v3 v4)) : ∀ (n m : Nat) (t0 : Md) (z1 : Int32) (z2 : Int32) (z3 : Int32) (z4 : Int32), dt (fun P : O → Prop => wp_X7_readsCells_L78 (fun v0 v1 => G_post v0 v1 P) (fun v0 v1 v2 v3 v4 => G_e99 v0 v1 v2 v3 v4 P) n t0 z1 z2 z3 z4) (fun P : O → Prop => wp_X7_readsCells_L78 (fun v0 v1 => G2_post v0 v1 P) (fun v0 v1 v2 v3 v4 => G2_e99 v0 v1 v2 v3 v4 P) m t0 z1 z2 z3 z4) := by
  intro n
  induction n with
  | zero => exact fun _ _ _ _ _ _ => dt_F
  | succ n78 ih =>
    intro m t0 z1 z2 z3 z4
    have key : ∀ m9 : Nat, dt (fun P : O → Prop => wp_X7_readsCells_L78 (fun v0 v1 => G_post v0 v1 P) (fun v0 v1 v2 v3 v4 => G_e99 v0 v1 v2 v3 v4 P) (n78 + 1) t0 z1 z2 z3 z4) (fun P : O → Prop => wp_X7_readsCells_L78 (fun v0 v1 => G2_post v0 v1 P) (fun v0 v1 v2 v3 v4 => G2_e99 v0 v1 v2 v3 v4 P) (m9 + 1) t0 z1 z2 z3 z4) := by
      intro m9
      unfold wp_X7_readsCells_L78
      exact (dt_p (h_e99 t0 z1 z2 z3 z4) (dt_b1 (F := fun k => wp_X7_sets k t0 z3 z4 (0 : Int64)) (dt_X7_sets t0 z3 z4 (0 : Int64)) (fun u_19 => (ih m9 u_19 z1 z2 z3 (z4 + 1)))))
    cases m with
    | zero => exact dt_0 (key 0)
    | succ m9 => exact key m9
set_option maxHeartbeats 4000000 in
theorem dl_X7_readsCells_L70  {O : Type} {G_post G2_post : Int32 → Md → (O → Prop) → Prop} {G_e116 G2_e116 : Md → Int32 → Int32 → Int32 → (O → Prop) → Prop} (h_post : ∀ v0 v1, dt (G_post v0 v1) (G2_post v0 v1)) (h_e116 : ∀ v0 v1 v2 v3, dt (G_e116 v0 v1 v2 v3) (G2_e116 v0 v1 v2 v3)) : ∀ (n m : Nat) (t0 : Md) (z1 : Int32) (z2 : Int32) (z3 : Int32), dt (fun P : O → Prop => wp_X7_readsCells_L70 (fun v0 v1 => G_post v0 v1 P) (fun v0 v1 v2 v3 => G_e116 v0 v1 v2 v3 P) n t0 z1 z2 z3) (fun P : O → Prop => wp_X7_readsCells_L70 (fun v0 v1 => G2_post v0 v1 P) (fun v0 v1 v2 v3 => G2_e116 v0 v1 v2 v3 P) m t0 z1 z2 z3) := by
  intro n
  induction n with
  | zero => exact fun _ _ _ _ _ => dt_F
  | succ n70 ih =>
    intro m t0 z1 z2 z3
    have key : ∀ m9 : Nat, dt (fun P : O → Prop => wp_X7_readsCells_L70 (fun v0 v1 => G_post v0 v1 P) (fun v0 v1 v2 v3 => G_e116 v0 v1 v2 v3 P) (n70 + 1) t0 z1 z2 z3) (fun P : O → Prop => wp_X7_readsCells_L70 (fun v0 v1 => G2_post v0 v1 P) (fun v0 v1 v2 v3 => G2_e116 v0 v1 v2 v3 P) (m9 + 1) t0 z1 z2 z3) := by
      intro m9
      unfold wp_X7_readsCells_L70
      exact (dt_p (h_e116 t0 z1 z2 z3) (dt_x (fun n78 m_n78 => (dl_X7_readsCells_L78  (fun v0 v1 => (h_post v0 v1)) (fun t0 z1 z2 z3 z4 => (dt_b1 (F := fun k => wp_X7_sets k t0 z3 (0 : Int32) (Int32.toInt64 (t0.1 8))) (dt_X7_sets t0 z3 (0 : Int32) (Int32.toInt64 (t0.1 8))) (fun u_21 => (ih m9 u_21 z1 z2 (z3 + 1))))) n78 m_n78 t0 z1 z2 z3 0))))
    cases m with
    | zero => exact dt_0 (key 0)
    | succ m9 => exact key m9
set_option maxHeartbeats 4000000 in
theorem dt_X7_readsCells (s0 : Md) : dt (fun P : (Int32 × Md) → Prop => wp_X7_readsCells (fun a0 a1 => P (a0, a1)) s0) (fun P : (Int32 × Md) → Prop => wp_X7_readsCells (fun a0 a1 => P (a0, a1)) s0) := by
  unfold wp_X7_readsCells
  exact (dt_b1 (F := fun k => wp_X7_cells k ((va_up s0.1 6 ((s0.1 6) + 5)), s0.2.1, s0.2.2.1, s0.2.2.2)) (dt_X7_cells ((va_up s0.1 6 ((s0.1 6) + 5)), s0.2.1, s0.2.2.1, s0.2.2.2)) (fun r_1 => (dt_b2 (F := fun k => wp_X7_readsNumber k ((va_up s0.1 6 ((s0.1 6) + 5)), s0.2.1, s0.2.2.1, s0.2.2.2) (0 : Int32) (r_1 - 1)) (dt_X7_readsNumber ((va_up s0.1 6 ((s0.1 6) + 5)), s0.2.1, s0.2.2.1, s0.2.2.2) (0 : Int32) (r_1 - 1)) (fun r_3 u_4 => (dt_n (dt_b1 (F := fun k => wp_X7_cells k u_4) (dt_X7_cells u_4) (fun r_6 => (dt_b2 (F := fun k => wp_X7_readsNumber k u_4 (u_4.1 8) (r_6 - 1)) (dt_X7_readsNumber u_4 (u_4.1 8) (r_6 - 1)) (fun r_8 u_9 => (dt_n (dt_b1 (F := fun k => wp_X7_drums k u_9) (dt_X7_drums u_9) (fun r_11 => (dt_b2 (F := fun k => wp_X7_readsNumber k u_9 (0 : Int32) (r_11 - 1)) (dt_X7_readsNumber u_9 (0 : Int32) (r_11 - 1)) (fun r_13 u_14 => (dt_n (dt_x (fun n70 m_n70 => (dl_X7_readsCells_L70  (fun v0 v1 => (dt_r _)) (fun t0 z1 z2 z3 => (dt_r _)) n70 m_n70 u_14 (u_4.1 8) (u_9.1 8) (u_4.1 8)))) (dt_r _)))))) (dt_r _)))))) (dt_r _))))))
set_option maxHeartbeats 4000000 in
theorem dt_X7_readsWorn (s0 : Md) : dt (fun P : (Int32 × Md) → Prop => wp_X7_readsWorn (fun a0 a1 => P (a0, a1)) s0) (fun P : (Int32 × Md) → Prop => wp_X7_readsWorn (fun a0 a1 => P (a0, a1)) s0) := by
  unfold wp_X7_readsWorn
  exact (dt_b1 (F := fun k => wp_X7_cells k ((va_up s0.1 6 ((s0.1 6) + 4)), s0.2.1, s0.2.2.1, s0.2.2.2)) (dt_X7_cells ((va_up s0.1 6 ((s0.1 6) + 4)), s0.2.1, s0.2.2.1, s0.2.2.2)) (fun r_1 => (dt_b2 (F := fun k => wp_X7_readsNumber k ((va_up s0.1 6 ((s0.1 6) + 4)), s0.2.1, s0.2.2.1, s0.2.2.2) (0 : Int32) (r_1 - 1)) (dt_X7_readsNumber ((va_up s0.1 6 ((s0.1 6) + 4)), s0.2.1, s0.2.2.1, s0.2.2.2) (0 : Int32) (r_1 - 1)) (fun r_3 u_4 => (dt_n (dt_b1 (F := fun k => wp_X7_flaps k u_4 (u_4.1 8)) (dt_X7_flaps u_4 (u_4.1 8)) (fun r_6 => (dt_b2 (F := fun k => wp_X7_readsNumber k u_4 (1 : Int32) (r_6 - 1)) (dt_X7_readsNumber u_4 (1 : Int32) (r_6 - 1)) (fun r_8 u_9 => (dt_n (dt_b1 (F := fun k => wp_X7_wornOf k u_9 (u_4.1 8)) (dt_X7_wornOf u_9 (u_4.1 8)) (fun r_11 => (dt_b1 (F := fun k => wp_X7_isIn k r_11 (u_9.1 8)) (dt_X7_isIn r_11 (u_9.1 8)) (fun r_13 => (dt_p (dt_b1 (F := fun k => wp_X7_wears k u_9 (u_4.1 8) (u_9.1 8)) (dt_X7_wears u_9 (u_4.1 8) (u_9.1 8)) (fun u_17 => (dt_r _))) (dt_b2 (F := fun k => wp_X7_fails k u_9 (2 : Int32) (u_9.1 9)) (dt_X7_fails u_9 (2 : Int32) (u_9.1 9)) (fun r_18 u_19 => (dt_c (dt_r _))))))))) (dt_r _)))))) (dt_r _))))))

set_option maxHeartbeats 4000000 in
theorem dl_X7_readsRow_L62  {O : Type} {G_post G2_post : Int32 → Md → (O → Prop) → Prop} {G_e116 G2_e116 : Md → Int32 → Int32 → Int32 → (O → Prop) → Prop} (h_post : ∀ v0 v1, dt (G_post v0 v1) (G2_post v0 v1)) (h_e116 : ∀ v0 v1 v2 v3, dt (G_e116 v0 v1 v2 v3) (G2_e116 v0 v1 v2 v3)) : ∀ (n m : Nat) (t0 : Md) (z1 : Int32) (z2 : Int32) (z3 : Int32), dt (fun P : O → Prop => wp_X7_readsRow_L62 (fun v0 v1 => G_post v0 v1 P) (fun v0 v1 v2 v3 => G_e116 v0 v1 v2 v3 P) n t0 z1 z2 z3) (fun P : O → Prop => wp_X7_readsRow_L62 (fun v0 v1 => G2_post v0 v1 P) (fun v0 v1 v2 v3 => G2_e116 v0 v1 v2 v3 P) m t0 z1 z2 z3) := by
  intro n
  induction n with
  | zero => exact fun _ _ _ _ _ => dt_F
  | succ n62 ih =>
    intro m t0 z1 z2 z3
    have key : ∀ m9 : Nat, dt (fun P : O → Prop => wp_X7_readsRow_L62 (fun v0 v1 => G_post v0 v1 P) (fun v0 v1 v2 v3 => G_e116 v0 v1 v2 v3 P) (n62 + 1) t0 z1 z2 z3) (fun P : O → Prop => wp_X7_readsRow_L62 (fun v0 v1 => G2_post v0 v1 P) (fun v0 v1 v2 v3 => G2_e116 v0 v1 v2 v3 P) (m9 + 1) t0 z1 z2 z3) := by
      intro m9
      unfold wp_X7_readsRow_L62
      exact (dt_b1 (F := fun k => wp_X7_wide k t0) (dt_X7_wide t0) (fun r_13 => (dt_p (h_e116 t0 z1 z2 z3) (dt_b1 (F := fun k => wp_X7_wide k t0) (dt_X7_wide t0) (fun r_16 => (dt_b1 (F := fun k => wp_X7_of k t0 ((r_16 * z1) + z3) (3 : Int32)) (dt_X7_of t0 ((r_16 * z1) + z3) (3 : Int32)) (fun r_18 => (dt_b1 (F := fun k => wp_X7_sets k t0 ((r_16 * z1) + z3) (1 : Int32) (Int32.toInt64 r_18)) (dt_X7_sets t0 ((r_16 * z1) + z3) (1 : Int32) (Int32.toInt64 r_18)) (fun u_21 => (dt_b1 (F := fun k => wp_X7_of k u_21 ((r_16 * z1) + z3) (3 : Int32)) (dt_X7_of u_21 ((r_16 * z1) + z3) (3 : Int32)) (fun r_22 => (dt_b1 (F := fun k => wp_X7_sets k u_21 ((r_16 * z1) + z3) (2 : Int32) (Int32.toInt64 r_22)) (dt_X7_sets u_21 ((r_16 * z1) + z3) (2 : Int32) (Int32.toInt64 r_22)) (fun u_25 => (ih m9 u_25 z1 z2 (z3 + 1)))))))))))))))
    cases m with
    | zero => exact dt_0 (key 0)
    | succ m9 => exact key m9
set_option maxHeartbeats 4000000 in
theorem dt_X7_readsRow (s0 : Md) : dt (fun P : (Int32 × Md) → Prop => wp_X7_readsRow (fun a0 a1 => P (a0, a1)) s0) (fun P : (Int32 × Md) → Prop => wp_X7_readsRow (fun a0 a1 => P (a0, a1)) s0) := by
  unfold wp_X7_readsRow
  exact (dt_b1 (F := fun k => wp_X7_rows k ((va_up s0.1 6 ((s0.1 6) + 3)), s0.2.1, s0.2.2.1, s0.2.2.2)) (dt_X7_rows ((va_up s0.1 6 ((s0.1 6) + 3)), s0.2.1, s0.2.2.1, s0.2.2.2)) (fun r_1 => (dt_b2 (F := fun k => wp_X7_readsNumber k ((va_up s0.1 6 ((s0.1 6) + 3)), s0.2.1, s0.2.2.1, s0.2.2.2) (0 : Int32) (r_1 - 1)) (dt_X7_readsNumber ((va_up s0.1 6 ((s0.1 6) + 3)), s0.2.1, s0.2.2.1, s0.2.2.2) (0 : Int32) (r_1 - 1)) (fun r_3 u_4 => (dt_n (dt_b1 (F := fun k => wp_X7_wide k u_4) (dt_X7_wide u_4) (fun r_6 => (dt_b2 (F := fun k => wp_X7_readsQuoted k u_4 (0 : Int32) r_6) (dt_X7_readsQuoted u_4 (0 : Int32) r_6) (fun r_8 u_9 => (dt_n (dt_b2 (F := fun k => wp_X7_wantsSigns k u_9 (u_4.1 8) (u_9.1 10) (u_9.1 11) (0 : Int32)) (dt_X7_wantsSigns u_9 (u_4.1 8) (u_9.1 10) (u_9.1 11) (0 : Int32)) (fun r_11 u_12 => (dt_x (fun n62 m_n62 => (dl_X7_readsRow_L62  (fun v0 v1 => (dt_r _)) (fun t0 z1 z2 z3 => (dt_r _)) n62 m_n62 u_12 (u_4.1 8) r_11 0))))) (dt_r _)))))) (dt_r _))))))
set_option maxHeartbeats 4000000 in
theorem dt_X7_readsLose (s0 : Md) : dt (fun P : (Int32 × Md) → Prop => wp_X7_readsLose (fun a0 a1 => P (a0, a1)) s0) (fun P : (Int32 × Md) → Prop => wp_X7_readsLose (fun a0 a1 => P (a0, a1)) s0) := by
  unfold wp_X7_readsLose
  exact (dt_b1 (F := fun k => wp_X7_cells k ((va_up s0.1 6 ((s0.1 6) + 4)), s0.2.1, s0.2.2.1, s0.2.2.2)) (dt_X7_cells ((va_up s0.1 6 ((s0.1 6) + 4)), s0.2.1, s0.2.2.1, s0.2.2.2)) (fun r_1 => (dt_b2 (F := fun k => wp_X7_readsNumber k ((va_up s0.1 6 ((s0.1 6) + 4)), s0.2.1, s0.2.2.1, s0.2.2.2) (0 : Int32) (r_1 - 1)) (dt_X7_readsNumber ((va_up s0.1 6 ((s0.1 6) + 4)), s0.2.1, s0.2.2.1, s0.2.2.2) (0 : Int32) (r_1 - 1)) (fun r_3 u_4 => (dt_n (dt_b2 (F := fun k => wp_X7_readsNumber k ((va_up u_4.1 12 (u_4.1 8)), u_4.2.1, u_4.2.2.1, u_4.2.2.2) (0 : Int32) (9 : Int32)) (dt_X7_readsNumber ((va_up u_4.1 12 (u_4.1 8)), u_4.2.1, u_4.2.2.1, u_4.2.2.2) (0 : Int32) (9 : Int32)) (fun r_6 u_7 => (dt_c (dt_r _)))) (dt_r _))))))
set_option maxHeartbeats 4000000 in
theorem dt_X7_readsPart (s0 : Md) : dt (fun P : (Int32 × Md) → Prop => wp_X7_readsPart (fun a0 a1 => P (a0, a1)) s0) (fun P : (Int32 × Md) → Prop => wp_X7_readsPart (fun a0 a1 => P (a0, a1)) s0) := by
  unfold wp_X7_readsPart
  exact (dt_b2 (F := fun k => wp_X7_isWord k s0 2) (dt_X7_isWord s0 2) (fun r_1 u_2 => (dt_p (dt_b2 (F := fun k => wp_X7_isWord k u_2 3) (dt_X7_isWord u_2 3) (fun r_4 u_5 => (dt_n (dt_b1 (F := fun k => wp_X7_drums k u_5) (dt_X7_drums u_5) (fun r_7 => (dt_n (dt_b2 (F := fun k => wp_X7_isWord k u_5 3) (dt_X7_isWord u_5 3) (fun r_10 u_11 => (dt_p (dt_b2 (F := fun k => wp_X7_isWord k u_11 4) (dt_X7_isWord u_11 4) (fun r_13 u_14 => (dt_p (dt_b2 (F := fun k => wp_X7_isWord k u_14 5) (dt_X7_isWord u_14 5) (fun r_16 u_17 => (dt_p (dt_b2 (F := fun k => wp_X7_readsLose k u_17) (dt_X7_readsLose u_17) (fun r_19 u_20 => (dt_n (dt_b1 (F := fun k => wp_X7_sets k u_20 (u_20.1 12) (4 : Int32) (Int32.toInt64 (u_20.1 8))) (dt_X7_sets u_20 (u_20.1 12) (4 : Int32) (Int32.toInt64 (u_20.1 8))) (fun u_23 => (dt_r _))) (dt_r _)))) (dt_b2 (F := fun k => wp_X7_readsRow k u_17) (dt_X7_readsRow u_17) (fun r_24 u_25 => (dt_c (dt_r _))))))) (dt_b2 (F := fun k => wp_X7_readsWorn k u_14) (dt_X7_readsWorn u_14) (fun r_27 u_28 => (dt_c (dt_r _))))))) (dt_b2 (F := fun k => wp_X7_readsCells k u_11) (dt_X7_readsCells u_11) (fun r_30 u_31 => (dt_c (dt_r _))))))) (dt_b2 (F := fun k => wp_X7_fails k u_5 (3 : Int32) (u_5.1 6)) (dt_X7_fails u_5 (3 : Int32) (u_5.1 6)) (fun r_33 u_34 => (dt_c (dt_r _))))))) (dt_b2 (F := fun k => wp_X7_isWord k u_5 4) (dt_X7_isWord u_5 4) (fun r_36 u_37 => (dt_n (dt_b1 (F := fun k => wp_X7_drums k u_37) (dt_X7_drums u_37) (fun r_39 => (dt_n (dt_b2 (F := fun k => wp_X7_isWord k u_37 3) (dt_X7_isWord u_37 3) (fun r_42 u_43 => (dt_p (dt_b2 (F := fun k => wp_X7_isWord k u_43 4) (dt_X7_isWord u_43 4) (fun r_45 u_46 => (dt_p (dt_b2 (F := fun k => wp_X7_isWord k u_46 5) (dt_X7_isWord u_46 5) (fun r_48 u_49 => (dt_p (dt_b2 (F := fun k => wp_X7_readsLose k u_49) (dt_X7_readsLose u_49) (fun r_51 u_52 => (dt_n (dt_b1 (F := fun k => wp_X7_sets k u_52 (u_52.1 12) (4 : Int32) (Int32.toInt64 (u_52.1 8))) (dt_X7_sets u_52 (u_52.1 12) (4 : Int32) (Int32.toInt64 (u_52.1 8))) (fun u_55 => (dt_r _))) (dt_r _)))) (dt_b2 (F := fun k => wp_X7_readsRow k u_49) (dt_X7_readsRow u_49) (fun r_56 u_57 => (dt_c (dt_r _))))))) (dt_b2 (F := fun k => wp_X7_readsWorn k u_46) (dt_X7_readsWorn u_46) (fun r_59 u_60 => (dt_c (dt_r _))))))) (dt_b2 (F := fun k => wp_X7_readsCells k u_43) (dt_X7_readsCells u_43) (fun r_62 u_63 => (dt_c (dt_r _))))))) (dt_b2 (F := fun k => wp_X7_fails k u_37 (3 : Int32) (u_37.1 6)) (dt_X7_fails u_37 (3 : Int32) (u_37.1 6)) (fun r_65 u_66 => (dt_c (dt_r _))))))) (dt_b2 (F := fun k => wp_X7_isWord k u_37 5) (dt_X7_isWord u_37 5) (fun r_68 u_69 => (dt_n (dt_b1 (F := fun k => wp_X7_drums k u_69) (dt_X7_drums u_69) (fun r_71 => (dt_n (dt_b2 (F := fun k => wp_X7_isWord k u_69 3) (dt_X7_isWord u_69 3) (fun r_74 u_75 => (dt_p (dt_b2 (F := fun k => wp_X7_isWord k u_75 4) (dt_X7_isWord u_75 4) (fun r_77 u_78 => (dt_p (dt_b2 (F := fun k => wp_X7_isWord k u_78 5) (dt_X7_isWord u_78 5) (fun r_80 u_81 => (dt_p (dt_b2 (F := fun k => wp_X7_readsLose k u_81) (dt_X7_readsLose u_81) (fun r_83 u_84 => (dt_n (dt_b1 (F := fun k => wp_X7_sets k u_84 (u_84.1 12) (4 : Int32) (Int32.toInt64 (u_84.1 8))) (dt_X7_sets u_84 (u_84.1 12) (4 : Int32) (Int32.toInt64 (u_84.1 8))) (fun u_87 => (dt_r _))) (dt_r _)))) (dt_b2 (F := fun k => wp_X7_readsRow k u_81) (dt_X7_readsRow u_81) (fun r_88 u_89 => (dt_c (dt_r _))))))) (dt_b2 (F := fun k => wp_X7_readsWorn k u_78) (dt_X7_readsWorn u_78) (fun r_91 u_92 => (dt_c (dt_r _))))))) (dt_b2 (F := fun k => wp_X7_readsCells k u_75) (dt_X7_readsCells u_75) (fun r_94 u_95 => (dt_c (dt_r _))))))) (dt_b2 (F := fun k => wp_X7_fails k u_69 (3 : Int32) (u_69.1 6)) (dt_X7_fails u_69 (3 : Int32) (u_69.1 6)) (fun r_97 u_98 => (dt_c (dt_r _))))))) (dt_b2 (F := fun k => wp_X7_isWord k u_69 6) (dt_X7_isWord u_69 6) (fun r_100 u_101 => (dt_p (dt_b2 (F := fun k => wp_X7_fails k u_101 (1 : Int32) (u_101.1 6)) (dt_X7_fails u_101 (1 : Int32) (u_101.1 6)) (fun r_103 u_104 => (dt_c (dt_r _)))) (dt_b1 (F := fun k => wp_X7_drums k u_101) (dt_X7_drums u_101) (fun r_106 => (dt_n (dt_b2 (F := fun k => wp_X7_isWord k u_101 3) (dt_X7_isWord u_101 3) (fun r_109 u_110 => (dt_p (dt_b2 (F := fun k => wp_X7_isWord k u_110 4) (dt_X7_isWord u_110 4) (fun r_112 u_113 => (dt_p (dt_b2 (F := fun k => wp_X7_isWord k u_113 5) (dt_X7_isWord u_113 5) (fun r_115 u_116 => (dt_p (dt_b2 (F := fun k => wp_X7_readsLose k u_116) (dt_X7_readsLose u_116) (fun r_118 u_119 => (dt_n (dt_b1 (F := fun k => wp_X7_sets k u_119 (u_119.1 12) (4 : Int32) (Int32.toInt64 (u_119.1 8))) (dt_X7_sets u_119 (u_119.1 12) (4 : Int32) (Int32.toInt64 (u_119.1 8))) (fun u_122 => (dt_r _))) (dt_r _)))) (dt_b2 (F := fun k => wp_X7_readsRow k u_116) (dt_X7_readsRow u_116) (fun r_123 u_124 => (dt_c (dt_r _))))))) (dt_b2 (F := fun k => wp_X7_readsWorn k u_113) (dt_X7_readsWorn u_113) (fun r_126 u_127 => (dt_c (dt_r _))))))) (dt_b2 (F := fun k => wp_X7_readsCells k u_110) (dt_X7_readsCells u_110) (fun r_129 u_130 => (dt_c (dt_r _))))))) (dt_b2 (F := fun k => wp_X7_fails k u_101 (3 : Int32) (u_101.1 6)) (dt_X7_fails u_101 (3 : Int32) (u_101.1 6)) (fun r_132 u_133 => (dt_c (dt_r _))))))))))))))))))) (dt_b2 (F := fun k => wp_X7_readsDrum k u_2) (dt_X7_readsDrum u_2) (fun r_135 u_136 => (dt_c (dt_r _)))))))
set_option maxHeartbeats 4000000 in
theorem dl_X7_readsBoard_L116  {O : Type} {G_post G2_post : Int32 → Md → (O → Prop) → Prop} {G_e147 G2_e147 : Md → (O → Prop) → Prop} {G_e149 G2_e149 : Md → (O → Prop) → Prop} (h_post : ∀ v0 v1, dt (G_post v0 v1) (G2_post v0 v1)) (h_e147 : ∀ v0, dt (G_e147 v0) (G2_e147 v0)) (h_e149 : ∀ v0, dt (G_e149 v0) (G2_e149 v0)) : ∀ (n m : Nat) (t0 : Md), dt (fun P : O → Prop => wp_X7_readsBoard_L116 (fun v0 v1 => G_post v0 v1 P) (fun v0 => G_e147 v0 P) (fun v0 => G_e149 v0 P) n t0) (fun P : O → Prop => wp_X7_readsBoard_L116 (fun v0 v1 => G2_post v0 v1 P) (fun v0 => G2_e147 v0 P) (fun v0 => G2_e149 v0 P) m t0) := by
  intro n
  induction n with
  | zero => exact fun _ _ => dt_F
  | succ n116 ih =>
    intro m t0
    have key : ∀ m9 : Nat, dt (fun P : O → Prop => wp_X7_readsBoard_L116 (fun v0 v1 => G_post v0 v1 P) (fun v0 => G_e147 v0 P) (fun v0 => G_e149 v0 P) (n116 + 1) t0) (fun P : O → Prop => wp_X7_readsBoard_L116 (fun v0 v1 => G2_post v0 v1 P) (fun v0 => G2_e147 v0 P) (fun v0 => G2_e149 v0 P) (m9 + 1) t0) := by
      intro m9
      unfold wp_X7_readsBoard_L116
      exact (dt_b2 (F := fun k => wp_X7_nextByte k t0) (dt_X7_nextByte t0) (fun r_20 u_21 => (dt_n (h_e149 u_21) (dt_b2 (F := fun k => wp_X7_nextByte k ((va_up u_21.1 6 ((u_21.1 6) + 1)), u_21.2.1, u_21.2.2.1, u_21.2.2.2)) (dt_X7_nextByte ((va_up u_21.1 6 ((u_21.1 6) + 1)), u_21.2.1, u_21.2.2.1, u_21.2.2.2)) (fun r_23 u_24 => (dt_b2 (F := fun k => wp_X7_readsPart k u_24) (dt_X7_readsPart u_24) (fun r_25 u_26 => (dt_n (ih m9 u_26) (h_e147 u_26)))))))))
    cases m with
    | zero => exact dt_0 (key 0)
    | succ m9 => exact key m9
set_option maxHeartbeats 4000000 in
theorem dl_X7_readsBoard_L116b  {O : Type} {G_post G2_post : Int32 → Md → (O → Prop) → Prop} {G_e147 G2_e147 : Md → (O → Prop) → Prop} {G_e149 G2_e149 : Md → (O → Prop) → Prop} (h_post : ∀ v0 v1, dt (G_post v0 v1) (G2_post v0 v1)) (h_e147 : ∀ v0, dt (G_e147 v0) (G2_e147 v0)) (h_e149 : ∀ v0, dt (G_e149 v0) (G2_e149 v0)) : ∀ (n m : Nat) (t0 : Md), dt (fun P : O → Prop => wp_X7_readsBoard_L116b (fun v0 v1 => G_post v0 v1 P) (fun v0 => G_e147 v0 P) (fun v0 => G_e149 v0 P) n t0) (fun P : O → Prop => wp_X7_readsBoard_L116b (fun v0 v1 => G2_post v0 v1 P) (fun v0 => G2_e147 v0 P) (fun v0 => G2_e149 v0 P) m t0) := by
  intro n
  induction n with
  | zero => exact fun _ _ => dt_F
  | succ n116 ih =>
    intro m t0
    have key : ∀ m9 : Nat, dt (fun P : O → Prop => wp_X7_readsBoard_L116b (fun v0 v1 => G_post v0 v1 P) (fun v0 => G_e147 v0 P) (fun v0 => G_e149 v0 P) (n116 + 1) t0) (fun P : O → Prop => wp_X7_readsBoard_L116b (fun v0 v1 => G2_post v0 v1 P) (fun v0 => G2_e147 v0 P) (fun v0 => G2_e149 v0 P) (m9 + 1) t0) := by
      intro m9
      unfold wp_X7_readsBoard_L116b
      exact (dt_b2 (F := fun k => wp_X7_nextByte k t0) (dt_X7_nextByte t0) (fun r_52 u_53 => (dt_n (h_e149 u_53) (dt_b2 (F := fun k => wp_X7_nextByte k ((va_up u_53.1 6 ((u_53.1 6) + 1)), u_53.2.1, u_53.2.2.1, u_53.2.2.2)) (dt_X7_nextByte ((va_up u_53.1 6 ((u_53.1 6) + 1)), u_53.2.1, u_53.2.2.1, u_53.2.2.2)) (fun r_55 u_56 => (dt_b2 (F := fun k => wp_X7_readsPart k u_56) (dt_X7_readsPart u_56) (fun r_57 u_58 => (dt_n (ih m9 u_58) (h_e147 u_58)))))))))
    cases m with
    | zero => exact dt_0 (key 0)
    | succ m9 => exact key m9
set_option maxHeartbeats 4000000 in
theorem dt_X7_readsBoard (s0 : Md) : dt (fun P : (Int32 × Md) → Prop => wp_X7_readsBoard (fun a0 a1 => P (a0, a1)) s0) (fun P : (Int32 × Md) → Prop => wp_X7_readsBoard (fun a0 a1 => P (a0, a1)) s0) := by
  unfold wp_X7_readsBoard
  exact (dt_b2 (F := fun k => wp_X7_mustWord k ((va_up s0.1 6 0), s0.2.1, s0.2.2.1, s0.2.2.2) 0) (dt_X7_mustWord ((va_up s0.1 6 0), s0.2.1, s0.2.2.1, s0.2.2.2) 0) (fun r_1 u_2 => (dt_p (dt_r _) (dt_b2 (F := fun k => wp_X7_readsNumber k u_2 (1 : Int32) (6 : Int32)) (dt_X7_readsNumber u_2 (1 : Int32) (6 : Int32)) (fun r_4 u_5 => (dt_n (dt_b1 (F := fun k => wp_X7_rows k (u_5.1, u_5.2.1, (va_up u_5.2.2.1 0 (vp_updL (u_5.2.2.1 0) (Int32.toNatClampNeg 0) (Int32.toInt64 (u_5.1 8)))), u_5.2.2.2)) (dt_X7_rows (u_5.1, u_5.2.1, (va_up u_5.2.2.1 0 (vp_updL (u_5.2.2.1 0) (Int32.toNatClampNeg 0) (Int32.toInt64 (u_5.1 8)))), u_5.2.2.2)) (fun r_7 => (dt_c (dt_p (dt_b2 (F := fun k => wp_X7_readsNumber k (u_5.1, u_5.2.1, (va_up u_5.2.2.1 0 (vp_updL (u_5.2.2.1 0) (Int32.toNatClampNeg 0) (Int32.toInt64 (u_5.1 8)))), u_5.2.2.2) (1 : Int32) (10 : Int32)) (dt_X7_readsNumber (u_5.1, u_5.2.1, (va_up u_5.2.2.1 0 (vp_updL (u_5.2.2.1 0) (Int32.toNatClampNeg 0) (Int32.toInt64 (u_5.1 8)))), u_5.2.2.2) (1 : Int32) (10 : Int32)) (fun r_11 u_12 => (dt_n (dt_b2 (F := fun k => wp_X7_mustWord k (u_12.1, u_12.2.1, (va_up u_12.2.2.1 0 (vp_updL (u_12.2.2.1 0) (Int32.toNatClampNeg 1) (Int32.toInt64 (u_12.1 8)))), u_12.2.2.2) 1) (dt_X7_mustWord (u_12.1, u_12.2.1, (va_up u_12.2.2.1 0 (vp_updL (u_12.2.2.1 0) (Int32.toNatClampNeg 1) (Int32.toInt64 (u_12.1 8)))), u_12.2.2.2) 1) (fun r_14 u_15 => (dt_p (dt_r _) (dt_b2 (F := fun k => wp_X7_readsNumber k u_15 (1 : Int32) (99 : Int32)) (dt_X7_readsNumber u_15 (1 : Int32) (99 : Int32)) (fun r_17 u_18 => (dt_n (dt_x (fun n116 m_n116 => (dl_X7_readsBoard_L116  (fun v0 v1 => (dt_r _)) (fun t0 => (dt_r _)) (fun t0 => (dt_b2 (F := fun k => wp_X7_nextByte k t0) (dt_X7_nextByte t0) (fun r_28 u_29 => (dt_p (dt_b1 (F := fun k => wp_X7_drums k u_29) (dt_X7_drums u_29) (fun r_31 => (dt_p (dt_r _) (dt_b2 (F := fun k => wp_X7_fails k u_29 (4 : Int32) (u_29.1 5)) (dt_X7_fails u_29 (4 : Int32) (u_29.1 5)) (fun r_34 u_35 => (dt_p (dt_r _) (dt_r _))))))) (dt_b2 (F := fun k => wp_X7_fails k u_29 (1 : Int32) (u_29.1 6)) (dt_X7_fails u_29 (1 : Int32) (u_29.1 6)) (fun r_37 u_38 => (dt_c (dt_r _)))))))) n116 m_n116 (u_18.1, u_18.2.1, (va_up u_18.2.2.1 0 (vp_updL (u_18.2.2.1 0) (Int32.toNatClampNeg 2) (Int32.toInt64 (u_18.1 8)))), u_18.2.2.2)))) (dt_r _))))))) (dt_r _)))) (dt_b1 (F := fun k => wp_X7_rows k (u_5.1, u_5.2.1, (va_up u_5.2.2.1 0 (vp_updL (u_5.2.2.1 0) (Int32.toNatClampNeg 0) (Int32.toInt64 (u_5.1 8)))), u_5.2.2.2)) (dt_X7_rows (u_5.1, u_5.2.1, (va_up u_5.2.2.1 0 (vp_updL (u_5.2.2.1 0) (Int32.toNatClampNeg 0) (Int32.toInt64 (u_5.1 8)))), u_5.2.2.2)) (fun r_40 => (dt_c (dt_b2 (F := fun k => wp_X7_readsNumber k (u_5.1, u_5.2.1, (va_up u_5.2.2.1 0 (vp_updL (u_5.2.2.1 0) (Int32.toNatClampNeg 0) (Int32.toInt64 (u_5.1 8)))), u_5.2.2.2) (1 : Int32) (40 / r_40)) (dt_X7_readsNumber (u_5.1, u_5.2.1, (va_up u_5.2.2.1 0 (vp_updL (u_5.2.2.1 0) (Int32.toNatClampNeg 0) (Int32.toInt64 (u_5.1 8)))), u_5.2.2.2) (1 : Int32) (40 / r_40)) (fun r_43 u_44 => (dt_n (dt_b2 (F := fun k => wp_X7_mustWord k (u_44.1, u_44.2.1, (va_up u_44.2.2.1 0 (vp_updL (u_44.2.2.1 0) (Int32.toNatClampNeg 1) (Int32.toInt64 (u_44.1 8)))), u_44.2.2.2) 1) (dt_X7_mustWord (u_44.1, u_44.2.1, (va_up u_44.2.2.1 0 (vp_updL (u_44.2.2.1 0) (Int32.toNatClampNeg 1) (Int32.toInt64 (u_44.1 8)))), u_44.2.2.2) 1) (fun r_46 u_47 => (dt_p (dt_r _) (dt_b2 (F := fun k => wp_X7_readsNumber k u_47 (1 : Int32) (99 : Int32)) (dt_X7_readsNumber u_47 (1 : Int32) (99 : Int32)) (fun r_49 u_50 => (dt_n (dt_x (fun n116 m_n116 => (dl_X7_readsBoard_L116b  (fun v0 v1 => (dt_r _)) (fun t0 => (dt_r _)) (fun t0 => (dt_b2 (F := fun k => wp_X7_nextByte k t0) (dt_X7_nextByte t0) (fun r_60 u_61 => (dt_p (dt_b1 (F := fun k => wp_X7_drums k u_61) (dt_X7_drums u_61) (fun r_63 => (dt_p (dt_r _) (dt_b2 (F := fun k => wp_X7_fails k u_61 (4 : Int32) (u_61.1 5)) (dt_X7_fails u_61 (4 : Int32) (u_61.1 5)) (fun r_66 u_67 => (dt_p (dt_r _) (dt_r _))))))) (dt_b2 (F := fun k => wp_X7_fails k u_61 (1 : Int32) (u_61.1 6)) (dt_X7_fails u_61 (1 : Int32) (u_61.1 6)) (fun r_69 u_70 => (dt_c (dt_r _)))))))) n116 m_n116 (u_50.1, u_50.2.1, (va_up u_50.2.2.1 0 (vp_updL (u_50.2.2.1 0) (Int32.toNatClampNeg 2) (Int32.toInt64 (u_50.1 8)))), u_50.2.2.2)))) (dt_r _))))))) (dt_r _))))))))))) (dt_r _)))))))
set_option maxHeartbeats 4000000 in
theorem dl_X7_tell_L6  {O : Type} {G_post G2_post : Int32 → Md → (O → Prop) → Prop} {G_e26 G2_e26 : Md → Int32 → (O → Prop) → Prop} (h_post : ∀ v0 v1, dt (G_post v0 v1) (G2_post v0 v1)) (h_e26 : ∀ v0 v1, dt (G_e26 v0 v1) (G2_e26 v0 v1)) : ∀ (n m : Nat) (t0 : Md) (z1 : Int32), dt (fun P : O → Prop => wp_X7_tell_L6 (fun v0 v1 => G_post v0 v1 P) (fun v0 v1 => G_e26 v0 v1 P) n t0 z1) (fun P : O → Prop => wp_X7_tell_L6 (fun v0 v1 => G2_post v0 v1 P) (fun v0 v1 => G2_e26 v0 v1 P) m t0 z1) := by
  intro n
  induction n with
  | zero => exact fun _ _ _ => dt_F
  | succ n6 ih =>
    intro m t0 z1
    have key : ∀ m9 : Nat, dt (fun P : O → Prop => wp_X7_tell_L6 (fun v0 v1 => G_post v0 v1 P) (fun v0 v1 => G_e26 v0 v1 P) (n6 + 1) t0 z1) (fun P : O → Prop => wp_X7_tell_L6 (fun v0 v1 => G2_post v0 v1 P) (fun v0 v1 => G2_e26 v0 v1 P) (m9 + 1) t0 z1) := by
      intro m9
      unfold wp_X7_tell_L6
      exact (dt_p (h_e26 t0 z1) (dt_c (ih m9 (t0.1, t0.2.1, (va_up t0.2.2.1 0 (vp_updL (t0.2.2.1 0) (Int32.toNatClampNeg z1) 0)), t0.2.2.2) (z1 + 1))))
    cases m with
    | zero => exact dt_0 (key 0)
    | succ m9 => exact key m9
set_option maxHeartbeats 4000000 in
theorem dt_X7_tell (s0 : Md) : dt (fun P : (Int32 × Md) → Prop => wp_X7_tell (fun a0 a1 => P (a0, a1)) s0) (fun P : (Int32 × Md) → Prop => wp_X7_tell (fun a0 a1 => P (a0, a1)) s0) := by
  unfold wp_X7_tell
  exact (dt_b1 (F := fun k => wp_X7_putsAside k s0) (dt_X7_putsAside s0) (fun u_2 => (dt_x (fun n6 m_n6 => (dl_X7_tell_L6  (fun v0 v1 => (dt_r _)) (fun t0 z1 => (dt_b2 (F := fun k => wp_X7_readsBoard k t0) (dt_X7_readsBoard t0) (fun r_5 u_6 => (dt_n (dt_b1 (F := fun k => wp_X7_drums k ((va_up (va_up u_6.1 0 0) 5 0), u_6.2.1, u_6.2.2.1, u_6.2.2.2)) (dt_X7_drums ((va_up (va_up u_6.1 0 0) 5 0), u_6.2.1, u_6.2.2.1, u_6.2.2.2)) (fun r_8 => (dt_r _))) (dt_b1 (F := fun k => wp_X7_takesBack k ((va_up u_6.1 5 0), u_6.2.1, u_6.2.2.1, u_6.2.2.2)) (dt_X7_takesBack ((va_up u_6.1 5 0), u_6.2.1, u_6.2.2.1, u_6.2.2.2)) (fun u_11 => (dt_r _))))))) n6 m_n6 u_2 0)))))
set_option maxHeartbeats 4000000 in
theorem dt_X7_isDone (s0 : Md) (x1 : Int32) : dt (fun P : (Int32 × Md) → Prop => wp_X7_isDone (fun a0 a1 => P (a0, a1)) s0 x1) (fun P : (Int32 × Md) → Prop => wp_X7_isDone (fun a0 a1 => P (a0, a1)) s0 x1) := by
  unfold wp_X7_isDone
  exact (dt_p (dt_r _) (dt_n (dt_r _) (dt_r _)))
set_option maxHeartbeats 4000000 in
theorem dt_X7_goesRow (s0 : Md) (x1 : Int32) : dt (fun P : (Int32 × Md) → Prop => wp_X7_goesRow (fun a0 a1 => P (a0, a1)) s0 x1) (fun P : (Int32 × Md) → Prop => wp_X7_goesRow (fun a0 a1 => P (a0, a1)) s0 x1) := by
  unfold wp_X7_goesRow
  exact (dt_b1 (F := fun k => wp_X7_rows k ((va_up s0.1 6 ((s0.1 6) + 3)), s0.2.1, s0.2.2.1, s0.2.2.2)) (dt_X7_rows ((va_up s0.1 6 ((s0.1 6) + 3)), s0.2.1, s0.2.2.1, s0.2.2.2)) (fun r_1 => (dt_b2 (F := fun k => wp_X7_readsNumber k ((va_up s0.1 6 ((s0.1 6) + 3)), s0.2.1, s0.2.2.1, s0.2.2.2) (0 : Int32) (r_1 - 1)) (dt_X7_readsNumber ((va_up s0.1 6 ((s0.1 6) + 3)), s0.2.1, s0.2.2.1, s0.2.2.2) (0 : Int32) (r_1 - 1)) (fun r_3 u_4 => (dt_n (dt_b1 (F := fun k => wp_X7_wide k u_4) (dt_X7_wide u_4) (fun r_6 => (dt_b2 (F := fun k => wp_X7_readsQuoted k u_4 (0 : Int32) r_6) (dt_X7_readsQuoted u_4 (0 : Int32) r_6) (fun r_8 u_9 => (dt_n (dt_b2 (F := fun k => wp_X7_isDone k u_9 x1) (dt_X7_isDone u_9 x1) (fun r_11 u_12 => (dt_p (dt_r _) (dt_b2 (F := fun k => wp_X7_wantsSigns k u_12 (u_4.1 8) (u_12.1 10) (u_12.1 11) (1 : Int32)) (dt_X7_wantsSigns u_12 (u_4.1 8) (u_12.1 10) (u_12.1 11) (1 : Int32)) (fun r_14 u_15 => (dt_r _)))))) (dt_r _)))))) (dt_r _))))))
set_option maxHeartbeats 4000000 in
theorem dt_X7_goesScroll (s0 : Md) (x1 : Int32) : dt (fun P : (Int32 × Md) → Prop => wp_X7_goesScroll (fun a0 a1 => P (a0, a1)) s0 x1) (fun P : (Int32 × Md) → Prop => wp_X7_goesScroll (fun a0 a1 => P (a0, a1)) s0 x1) := by
  unfold wp_X7_goesScroll
  exact (dt_b1 (F := fun k => wp_X7_wide k ((va_up s0.1 6 ((s0.1 6) + 6)), s0.2.1, s0.2.2.1, s0.2.2.2)) (dt_X7_wide ((va_up s0.1 6 ((s0.1 6) + 6)), s0.2.1, s0.2.2.1, s0.2.2.2)) (fun r_1 => (dt_b2 (F := fun k => wp_X7_readsQuoted k ((va_up s0.1 6 ((s0.1 6) + 6)), s0.2.1, s0.2.2.1, s0.2.2.2) (0 : Int32) r_1) (dt_X7_readsQuoted ((va_up s0.1 6 ((s0.1 6) + 6)), s0.2.1, s0.2.2.1, s0.2.2.2) (0 : Int32) r_1) (fun r_3 u_4 => (dt_n (dt_b2 (F := fun k => wp_X7_isDone k u_4 x1) (dt_X7_isDone u_4 x1) (fun r_6 u_7 => (dt_p (dt_r _) (dt_b2 (F := fun k => wp_X7_scrolls k u_7 (u_7.1 10) (u_7.1 11)) (dt_X7_scrolls u_7 (u_7.1 10) (u_7.1 11)) (fun r_9 u_10 => (dt_r _)))))) (dt_r _))))))
set_option maxHeartbeats 4000000 in
theorem dl_X7_goesHome_L38  {O : Type} {G_post G2_post : Int32 → Md → (O → Prop) → Prop} {G_e69 G2_e69 : Md → Int32 → Int32 → (O → Prop) → Prop} (h_post : ∀ v0 v1, dt (G_post v0 v1) (G2_post v0 v1)) (h_e69 : ∀ v0 v1 v2, dt (G_e69 v0 v1 v2) (G2_e69 v0 v1 v2)) : ∀ (n m : Nat) (t0 : Md) (z1 : Int32) (z2 : Int32), dt (fun P : O → Prop => wp_X7_goesHome_L38 (fun v0 v1 => G_post v0 v1 P) (fun v0 v1 v2 => G_e69 v0 v1 v2 P) n t0 z1 z2) (fun P : O → Prop => wp_X7_goesHome_L38 (fun v0 v1 => G2_post v0 v1 P) (fun v0 v1 v2 => G2_e69 v0 v1 v2 P) m t0 z1 z2) := by
  intro n
  induction n with
  | zero => exact fun _ _ _ _ => dt_F
  | succ n38 ih =>
    intro m t0 z1 z2
    have key : ∀ m9 : Nat, dt (fun P : O → Prop => wp_X7_goesHome_L38 (fun v0 v1 => G_post v0 v1 P) (fun v0 v1 v2 => G_e69 v0 v1 v2 P) (n38 + 1) t0 z1 z2) (fun P : O → Prop => wp_X7_goesHome_L38 (fun v0 v1 => G2_post v0 v1 P) (fun v0 v1 v2 => G2_e69 v0 v1 v2 P) (m9 + 1) t0 z1 z2) := by
      intro m9
      unfold wp_X7_goesHome_L38
      exact (dt_b1 (F := fun k => wp_X7_wide k t0) (dt_X7_wide t0) (fun r_9 => (dt_p (h_e69 t0 z1 z2) (dt_b1 (F := fun k => wp_X7_wide k t0) (dt_X7_wide t0) (fun r_12 => (dt_b1 (F := fun k => wp_X7_wantsFlap k t0 ((r_12 * (t0.1 8)) + z2) (0 : Int32) (0 : Int32)) (dt_X7_wantsFlap t0 ((r_12 * (t0.1 8)) + z2) (0 : Int32) (0 : Int32)) (fun u_15 => (ih m9 u_15 z1 (z2 + 1)))))))))
    cases m with
    | zero => exact dt_0 (key 0)
    | succ m9 => exact key m9
set_option maxHeartbeats 4000000 in
theorem dt_X7_goesHome (s0 : Md) (x1 : Int32) : dt (fun P : (Int32 × Md) → Prop => wp_X7_goesHome (fun a0 a1 => P (a0, a1)) s0 x1) (fun P : (Int32 × Md) → Prop => wp_X7_goesHome (fun a0 a1 => P (a0, a1)) s0 x1) := by
  unfold wp_X7_goesHome
  exact (dt_b1 (F := fun k => wp_X7_rows k ((va_up s0.1 6 ((s0.1 6) + 4)), s0.2.1, s0.2.2.1, s0.2.2.2)) (dt_X7_rows ((va_up s0.1 6 ((s0.1 6) + 4)), s0.2.1, s0.2.2.1, s0.2.2.2)) (fun r_1 => (dt_b2 (F := fun k => wp_X7_readsNumber k ((va_up s0.1 6 ((s0.1 6) + 4)), s0.2.1, s0.2.2.1, s0.2.2.2) (0 : Int32) (r_1 - 1)) (dt_X7_readsNumber ((va_up s0.1 6 ((s0.1 6) + 4)), s0.2.1, s0.2.2.1, s0.2.2.2) (0 : Int32) (r_1 - 1)) (fun r_3 u_4 => (dt_n (dt_b2 (F := fun k => wp_X7_isDone k u_4 x1) (dt_X7_isDone u_4 x1) (fun r_6 u_7 => (dt_n (dt_x (fun n38 m_n38 => (dl_X7_goesHome_L38  (fun v0 v1 => (dt_r _)) (fun t0 z1 z2 => (dt_r _)) n38 m_n38 u_7 x1 0))) (dt_r _)))) (dt_r _))))))
set_option maxHeartbeats 4000000 in
theorem dl_X7_goesWait_L34  {O : Type} {G_post G2_post : Int32 → Md → (O → Prop) → Prop} {G_e53 G2_e53 : Md → Int32 → Int32 → (O → Prop) → Prop} (h_post : ∀ v0 v1, dt (G_post v0 v1) (G2_post v0 v1)) (h_e53 : ∀ v0 v1 v2, dt (G_e53 v0 v1 v2) (G2_e53 v0 v1 v2)) : ∀ (n m : Nat) (t0 : Md) (z1 : Int32) (z2 : Int32), dt (fun P : O → Prop => wp_X7_goesWait_L34 (fun v0 v1 => G_post v0 v1 P) (fun v0 v1 v2 => G_e53 v0 v1 v2 P) n t0 z1 z2) (fun P : O → Prop => wp_X7_goesWait_L34 (fun v0 v1 => G2_post v0 v1 P) (fun v0 v1 v2 => G2_e53 v0 v1 v2 P) m t0 z1 z2) := by
  intro n
  induction n with
  | zero => exact fun _ _ _ _ => dt_F
  | succ n34 ih =>
    intro m t0 z1 z2
    have key : ∀ m9 : Nat, dt (fun P : O → Prop => wp_X7_goesWait_L34 (fun v0 v1 => G_post v0 v1 P) (fun v0 v1 v2 => G_e53 v0 v1 v2 P) (n34 + 1) t0 z1 z2) (fun P : O → Prop => wp_X7_goesWait_L34 (fun v0 v1 => G2_post v0 v1 P) (fun v0 v1 v2 => G2_e53 v0 v1 v2 P) (m9 + 1) t0 z1 z2) := by
      intro m9
      unfold wp_X7_goesWait_L34
      exact (dt_p (h_e53 t0 z1 z2) (dt_b2 (F := fun k => wp_X7_ticks k t0) (dt_X7_ticks t0) (fun r_8 u_9 => (ih m9 u_9 z1 (z2 + 1)))))
    cases m with
    | zero => exact dt_0 (key 0)
    | succ m9 => exact key m9
set_option maxHeartbeats 4000000 in
theorem dt_X7_goesWait (s0 : Md) (x1 : Int32) : dt (fun P : (Int32 × Md) → Prop => wp_X7_goesWait (fun a0 a1 => P (a0, a1)) s0 x1) (fun P : (Int32 × Md) → Prop => wp_X7_goesWait (fun a0 a1 => P (a0, a1)) s0 x1) := by
  unfold wp_X7_goesWait
  exact (dt_b2 (F := fun k => wp_X7_readsNumber k ((va_up s0.1 6 ((s0.1 6) + 4)), s0.2.1, s0.2.2.1, s0.2.2.2) (1 : Int32) (99 : Int32)) (dt_X7_readsNumber ((va_up s0.1 6 ((s0.1 6) + 4)), s0.2.1, s0.2.2.1, s0.2.2.2) (1 : Int32) (99 : Int32)) (fun r_1 u_2 => (dt_n (dt_b2 (F := fun k => wp_X7_isDone k u_2 x1) (dt_X7_isDone u_2 x1) (fun r_4 u_5 => (dt_n (dt_x (fun n34 m_n34 => (dl_X7_goesWait_L34  (fun v0 v1 => (dt_r _)) (fun t0 z1 z2 => (dt_r _)) n34 m_n34 u_5 x1 0))) (dt_r _)))) (dt_r _))))
set_option maxHeartbeats 4000000 in
theorem dt_X7_goesSettle (s0 : Md) (x1 : Int32) : dt (fun P : (Int32 × Md) → Prop => wp_X7_goesSettle (fun a0 a1 => P (a0, a1)) s0 x1) (fun P : (Int32 × Md) → Prop => wp_X7_goesSettle (fun a0 a1 => P (a0, a1)) s0 x1) := by
  unfold wp_X7_goesSettle
  exact (dt_b2 (F := fun k => wp_X7_isDone k ((va_up s0.1 6 ((s0.1 6) + 6)), s0.2.1, s0.2.2.1, s0.2.2.2) x1) (dt_X7_isDone ((va_up s0.1 6 ((s0.1 6) + 6)), s0.2.1, s0.2.2.1, s0.2.2.2) x1) (fun r_1 u_2 => (dt_p (dt_r _) (dt_b2 (F := fun k => wp_X7_settles k u_2) (dt_X7_settles u_2) (fun r_4 u_5 => (dt_r _))))))
set_option maxHeartbeats 4000000 in
theorem dt_X7_goesLose (s0 : Md) (x1 : Int32) : dt (fun P : (Int32 × Md) → Prop => wp_X7_goesLose (fun a0 a1 => P (a0, a1)) s0 x1) (fun P : (Int32 × Md) → Prop => wp_X7_goesLose (fun a0 a1 => P (a0, a1)) s0 x1) := by
  unfold wp_X7_goesLose
  exact (dt_b2 (F := fun k => wp_X7_readsLose k s0) (dt_X7_readsLose s0) (fun r_1 u_2 => (dt_n (dt_b2 (F := fun k => wp_X7_isDone k u_2 x1) (dt_X7_isDone u_2 x1) (fun r_4 u_5 => (dt_p (dt_r _) (dt_b1 (F := fun k => wp_X7_sets k u_5 (u_5.1 12) (4 : Int32) (Int32.toInt64 (u_5.1 8))) (dt_X7_sets u_5 (u_5.1 12) (4 : Int32) (Int32.toInt64 (u_5.1 8))) (fun u_8 => (dt_r _)))))) (dt_r _))))
set_option maxHeartbeats 4000000 in
theorem dl_X7_goesTimes_1_L90  {O : Type} {G_post G2_post : Int32 → Md → (O → Prop) → Prop} {G_e141 G2_e141 : Md → Int32 → Int32 → Int32 → Int32 → Int32 → (O → Prop) → Prop} (h_post : ∀ v0 v1, dt (G_post v0 v1) (G2_post v0 v1)) (h_e141 : ∀ v0 v1 v2 v3 v4 v5, dt (G_e141 v0 v1 v2 v3 v4 v5) (G2_e141 v0 v1 v2 v3 v4 v5)) : ∀ (n m : Nat) (t0 : Md) (z1 : Int32) (z2 : Int32) (z3 : Int32) (z4 : Int32) (z5 : Int32), dt (fun P : O → Prop => wp_X7_goesTimes_1_L90 (fun v0 v1 => G_post v0 v1 P) (fun v0 v1 v2 v3 v4 v5 => G_e141 v0 v1 v2 v3 v4 v5 P) n t0 z1 z2 z3 z4 z5) (fun P : O → Prop => wp_X7_goesTimes_1_L90 (fun v0 v1 => G2_post v0 v1 P) (fun v0 v1 v2 v3 v4 v5 => G2_e141 v0 v1 v2 v3 v4 v5 P) m t0 z1 z2 z3 z4 z5) := by
  intro n
  induction n with
  | zero => exact fun _ _ _ _ _ _ _ => dt_F
  | succ n90 ih =>
    intro m t0 z1 z2 z3 z4 z5
    have key : ∀ m9 : Nat, dt (fun P : O → Prop => wp_X7_goesTimes_1_L90 (fun v0 v1 => G_post v0 v1 P) (fun v0 v1 v2 v3 v4 v5 => G_e141 v0 v1 v2 v3 v4 v5 P) (n90 + 1) t0 z1 z2 z3 z4 z5) (fun P : O → Prop => wp_X7_goesTimes_1_L90 (fun v0 v1 => G2_post v0 v1 P) (fun v0 v1 v2 v3 v4 v5 => G2_e141 v0 v1 v2 v3 v4 v5 P) (m9 + 1) t0 z1 z2 z3 z4 z5) := by
      intro m9
      unfold wp_X7_goesTimes_1_L90
      exact (dt_p (dt_p dt_F (dt_p dt_F dt_F)) (dt_p (h_e141 t0 z1 z2 z3 z4 z5) (dt_p (h_e141 t0 z1 z2 z3 z4 z5) (dt_p dt_F (dt_p dt_F dt_F)))))
    cases m with
    | zero => exact dt_0 (key 0)
    | succ m9 => exact key m9
set_option maxHeartbeats 4000000 in
theorem dt_X7_goesTimes_1 (s0 : Md) (x1 : Int32) : dt (fun P : (Int32 × Md) → Prop => wp_X7_goesTimes_1 (fun a0 a1 => P (a0, a1)) s0 x1) (fun P : (Int32 × Md) → Prop => wp_X7_goesTimes_1 (fun a0 a1 => P (a0, a1)) s0 x1) := by
  unfold wp_X7_goesTimes_1
  exact (dt_b2 (F := fun k => wp_X7_readsNumber k ((va_up s0.1 6 ((s0.1 6) + 5)), s0.2.1, s0.2.2.1, s0.2.2.2) (0 : Int32) (20 : Int32)) (dt_X7_readsNumber ((va_up s0.1 6 ((s0.1 6) + 5)), s0.2.1, s0.2.2.1, s0.2.2.2) (0 : Int32) (20 : Int32)) (fun r_1 u_2 => (dt_n (dt_b2 (F := fun k => wp_X7_nextByte k u_2) (dt_X7_nextByte u_2) (fun r_4 u_5 => (dt_n (dt_b2 (F := fun k => wp_X7_mustByte k u_5 (40 : Int32)) (dt_X7_mustByte u_5 (40 : Int32)) (fun r_7 u_8 => (dt_n (dt_b2 (F := fun k => wp_X7_isDone k u_8 x1) (dt_X7_isDone u_8 x1) (fun r_10 u_11 => (dt_x (fun n90 m_n90 => (dl_X7_goesTimes_1_L90  (fun v0 v1 => (dt_r _)) (fun t0 z1 z2 z3 z4 z5 => (dt_b2 (F := fun k => wp_X7_mustByte k t0 (41 : Int32)) (dt_X7_mustByte t0 (41 : Int32)) (fun r_19 u_20 => (dt_n (dt_r _) (dt_r _))))) n90 m_n90 ((va_up u_11.1 14 ((u_11.1 14) + 1)), u_11.2.1, u_11.2.2.1, u_11.2.2.2) x1 (u_2.1 8) r_10 (u_11.1 6) 0))))) (dt_r _)))) (dt_n (dt_b2 (F := fun k => wp_X7_mustByte k u_5 (40 : Int32)) (dt_X7_mustByte u_5 (40 : Int32)) (fun r_23 u_24 => (dt_n (dt_b2 (F := fun k => wp_X7_isDone k u_24 x1) (dt_X7_isDone u_24 x1) (fun r_26 u_27 => (dt_x (fun n90 m_n90 => (dl_X7_goesTimes_1_L90  (fun v0 v1 => (dt_r _)) (fun t0 z1 z2 z3 z4 z5 => (dt_b2 (F := fun k => wp_X7_mustByte k t0 (41 : Int32)) (dt_X7_mustByte t0 (41 : Int32)) (fun r_35 u_36 => (dt_n (dt_r _) (dt_r _))))) n90 m_n90 ((va_up u_27.1 14 ((u_27.1 14) + 1)), u_27.2.1, u_27.2.2.1, u_27.2.2.2) x1 (u_2.1 8) r_26 (u_27.1 6) 0))))) (dt_r _)))) (dt_b2 (F := fun k => wp_X7_fails k u_5 (3 : Int32) (u_5.1 6)) (dt_X7_fails u_5 (3 : Int32) (u_5.1 6)) (fun r_38 u_39 => (dt_c (dt_r _)))))))) (dt_r _))))
set_option maxHeartbeats 4000000 in
theorem dt_X7_goesOne_1 (s0 : Md) (x1 : Int32) : dt (fun P : (Int32 × Md) → Prop => wp_X7_goesOne_1 (fun a0 a1 => P (a0, a1)) s0 x1) (fun P : (Int32 × Md) → Prop => wp_X7_goesOne_1 (fun a0 a1 => P (a0, a1)) s0 x1) := by
  unfold wp_X7_goesOne_1
  exact (dt_b2 (F := fun k => wp_X7_isWord k s0 5) (dt_X7_isWord s0 5) (fun r_1 u_2 => (dt_p (dt_b2 (F := fun k => wp_X7_isWord k u_2 7) (dt_X7_isWord u_2 7) (fun r_4 u_5 => (dt_p (dt_b2 (F := fun k => wp_X7_isWord k u_5 8) (dt_X7_isWord u_5 8) (fun r_7 u_8 => (dt_p (dt_b2 (F := fun k => wp_X7_isWord k u_8 9) (dt_X7_isWord u_8 9) (fun r_10 u_11 => (dt_p (dt_b2 (F := fun k => wp_X7_isWord k u_11 10) (dt_X7_isWord u_11 10) (fun r_13 u_14 => (dt_p (dt_b2 (F := fun k => wp_X7_isWord k u_14 6) (dt_X7_isWord u_14 6) (fun r_16 u_17 => (dt_p (dt_b2 (F := fun k => wp_X7_isWord k u_17 11) (dt_X7_isWord u_17 11) (fun r_19 u_20 => (dt_p (dt_b2 (F := fun k => wp_X7_fails k u_20 (1 : Int32) (u_20.1 6)) (dt_X7_fails u_20 (1 : Int32) (u_20.1 6)) (fun r_22 u_23 => (dt_c (dt_r _)))) (dt_b2 (F := fun k => wp_X7_goesTimes_1 k u_20 x1) (dt_X7_goesTimes_1 u_20 x1) (fun r_25 u_26 => (dt_c (dt_r _))))))) (dt_b2 (F := fun k => wp_X7_goesLose k u_17 x1) (dt_X7_goesLose u_17 x1) (fun r_28 u_29 => (dt_c (dt_r _))))))) (dt_b2 (F := fun k => wp_X7_goesSettle k u_14 x1) (dt_X7_goesSettle u_14 x1) (fun r_31 u_32 => (dt_c (dt_r _))))))) (dt_b2 (F := fun k => wp_X7_goesWait k u_11 x1) (dt_X7_goesWait u_11 x1) (fun r_34 u_35 => (dt_c (dt_r _))))))) (dt_b2 (F := fun k => wp_X7_goesHome k u_8 x1) (dt_X7_goesHome u_8 x1) (fun r_37 u_38 => (dt_c (dt_r _))))))) (dt_b2 (F := fun k => wp_X7_goesScroll k u_5 x1) (dt_X7_goesScroll u_5 x1) (fun r_40 u_41 => (dt_c (dt_r _))))))) (dt_b2 (F := fun k => wp_X7_goesRow k u_2 x1) (dt_X7_goesRow u_2 x1) (fun r_43 u_44 => (dt_c (dt_r _)))))))
set_option maxHeartbeats 4000000 in
theorem dl_X7_goesAll_1_L10  {O : Type} {G_post G2_post : Int32 → Md → (O → Prop) → Prop} {G_e27 G2_e27 : Md → Int32 → (O → Prop) → Prop} {G_e29 G2_e29 : Md → Int32 → (O → Prop) → Prop} (h_post : ∀ v0 v1, dt (G_post v0 v1) (G2_post v0 v1)) (h_e27 : ∀ v0 v1, dt (G_e27 v0 v1) (G2_e27 v0 v1)) (h_e29 : ∀ v0 v1, dt (G_e29 v0 v1) (G2_e29 v0 v1)) : ∀ (n m : Nat) (t0 : Md) (z1 : Int32), dt (fun P : O → Prop => wp_X7_goesAll_1_L10 (fun v0 v1 => G_post v0 v1 P) (fun v0 v1 => G_e27 v0 v1 P) (fun v0 v1 => G_e29 v0 v1 P) n t0 z1) (fun P : O → Prop => wp_X7_goesAll_1_L10 (fun v0 v1 => G2_post v0 v1 P) (fun v0 v1 => G2_e27 v0 v1 P) (fun v0 v1 => G2_e29 v0 v1 P) m t0 z1) := by
  intro n
  induction n with
  | zero => exact fun _ _ _ => dt_F
  | succ n10 ih =>
    intro m t0 z1
    have key : ∀ m9 : Nat, dt (fun P : O → Prop => wp_X7_goesAll_1_L10 (fun v0 v1 => G_post v0 v1 P) (fun v0 v1 => G_e27 v0 v1 P) (fun v0 v1 => G_e29 v0 v1 P) (n10 + 1) t0 z1) (fun P : O → Prop => wp_X7_goesAll_1_L10 (fun v0 v1 => G2_post v0 v1 P) (fun v0 v1 => G2_e27 v0 v1 P) (fun v0 v1 => G2_e29 v0 v1 P) (m9 + 1) t0 z1) := by
      intro m9
      unfold wp_X7_goesAll_1_L10
      exact (dt_b2 (F := fun k => wp_X7_takesByte k t0 (59 : Int32)) (dt_X7_takesByte t0 (59 : Int32)) (fun r_4 u_5 => (dt_p (h_e29 u_5 z1) (dt_b2 (F := fun k => wp_X7_goesOne_1 k u_5 z1) (dt_X7_goesOne_1 u_5 z1) (fun r_7 u_8 => (dt_n (ih m9 u_8 z1) (h_e27 u_8 z1)))))))
    cases m with
    | zero => exact dt_0 (key 0)
    | succ m9 => exact key m9
set_option maxHeartbeats 4000000 in
theorem dt_X7_goesAll_1 (s0 : Md) (x1 : Int32) : dt (fun P : (Int32 × Md) → Prop => wp_X7_goesAll_1 (fun a0 a1 => P (a0, a1)) s0 x1) (fun P : (Int32 × Md) → Prop => wp_X7_goesAll_1 (fun a0 a1 => P (a0, a1)) s0 x1) := by
  unfold wp_X7_goesAll_1
  exact (dt_b2 (F := fun k => wp_X7_goesOne_1 k s0 x1) (dt_X7_goesOne_1 s0 x1) (fun r_1 u_2 => (dt_n (dt_x (fun n10 m_n10 => (dl_X7_goesAll_1_L10  (fun v0 v1 => (dt_r _)) (fun t0 z1 => (dt_r _)) (fun t0 z1 => (dt_r _)) n10 m_n10 u_2 x1))) (dt_r _))))
set_option maxHeartbeats 4000000 in
theorem dl_X7_goesTimes_2_L90  {O : Type} {G_post G2_post : Int32 → Md → (O → Prop) → Prop} {G_e141 G2_e141 : Md → Int32 → Int32 → Int32 → Int32 → Int32 → (O → Prop) → Prop} (h_post : ∀ v0 v1, dt (G_post v0 v1) (G2_post v0 v1)) (h_e141 : ∀ v0 v1 v2 v3 v4 v5, dt (G_e141 v0 v1 v2 v3 v4 v5) (G2_e141 v0 v1 v2 v3 v4 v5)) : ∀ (n m : Nat) (t0 : Md) (z1 : Int32) (z2 : Int32) (z3 : Int32) (z4 : Int32) (z5 : Int32), dt (fun P : O → Prop => wp_X7_goesTimes_2_L90 (fun v0 v1 => G_post v0 v1 P) (fun v0 v1 v2 v3 v4 v5 => G_e141 v0 v1 v2 v3 v4 v5 P) n t0 z1 z2 z3 z4 z5) (fun P : O → Prop => wp_X7_goesTimes_2_L90 (fun v0 v1 => G2_post v0 v1 P) (fun v0 v1 v2 v3 v4 v5 => G2_e141 v0 v1 v2 v3 v4 v5 P) m t0 z1 z2 z3 z4 z5) := by
  intro n
  induction n with
  | zero => exact fun _ _ _ _ _ _ _ => dt_F
  | succ n90 ih =>
    intro m t0 z1 z2 z3 z4 z5
    have key : ∀ m9 : Nat, dt (fun P : O → Prop => wp_X7_goesTimes_2_L90 (fun v0 v1 => G_post v0 v1 P) (fun v0 v1 v2 v3 v4 v5 => G_e141 v0 v1 v2 v3 v4 v5 P) (n90 + 1) t0 z1 z2 z3 z4 z5) (fun P : O → Prop => wp_X7_goesTimes_2_L90 (fun v0 v1 => G2_post v0 v1 P) (fun v0 v1 v2 v3 v4 v5 => G2_e141 v0 v1 v2 v3 v4 v5 P) (m9 + 1) t0 z1 z2 z3 z4 z5) := by
      intro m9
      unfold wp_X7_goesTimes_2_L90
      exact (dt_p (dt_p (dt_b2 (F := fun k => wp_X7_goesAll_1 k ((va_up t0.1 6 z4), t0.2.1, t0.2.2.1, t0.2.2.2) (0 : Int32)) (dt_X7_goesAll_1 ((va_up t0.1 6 z4), t0.2.1, t0.2.2.1, t0.2.2.2) (0 : Int32)) (fun r_14 u_15 => (dt_n (ih m9 u_15 z1 z2 z3 z4 (z5 + 1)) (h_post 0 u_15)))) (dt_p (dt_b2 (F := fun k => wp_X7_goesAll_1 k ((va_up t0.1 6 z4), t0.2.1, t0.2.2.1, t0.2.2.2) (0 : Int32)) (dt_X7_goesAll_1 ((va_up t0.1 6 z4), t0.2.1, t0.2.2.1, t0.2.2.2) (0 : Int32)) (fun r_18 u_19 => (dt_n (ih m9 u_19 z1 z2 z3 z4 (z5 + 1)) (h_post 0 u_19)))) (dt_b2 (F := fun k => wp_X7_goesAll_1 k ((va_up t0.1 6 z4), t0.2.1, t0.2.2.1, t0.2.2.2) (1 : Int32)) (dt_X7_goesAll_1 ((va_up t0.1 6 z4), t0.2.1, t0.2.2.1, t0.2.2.2) (1 : Int32)) (fun r_21 u_22 => (dt_n (ih m9 u_22 z1 z2 z3 z4 (z5 + 1)) (h_post 0 u_22)))))) (dt_p (h_e141 t0 z1 z2 z3 z4 z5) (dt_p (h_e141 t0 z1 z2 z3 z4 z5) (dt_p (dt_b2 (F := fun k => wp_X7_goesAll_1 k ((va_up t0.1 6 z4), t0.2.1, t0.2.2.1, t0.2.2.2) (0 : Int32)) (dt_X7_goesAll_1 ((va_up t0.1 6 z4), t0.2.1, t0.2.2.1, t0.2.2.2) (0 : Int32)) (fun r_27 u_28 => (dt_n (ih m9 u_28 z1 z2 z3 z4 (z5 + 1)) (h_post 0 u_28)))) (dt_p (dt_b2 (F := fun k => wp_X7_goesAll_1 k ((va_up t0.1 6 z4), t0.2.1, t0.2.2.1, t0.2.2.2) (0 : Int32)) (dt_X7_goesAll_1 ((va_up t0.1 6 z4), t0.2.1, t0.2.2.1, t0.2.2.2) (0 : Int32)) (fun r_31 u_32 => (dt_n (ih m9 u_32 z1 z2 z3 z4 (z5 + 1)) (h_post 0 u_32)))) (dt_b2 (F := fun k => wp_X7_goesAll_1 k ((va_up t0.1 6 z4), t0.2.1, t0.2.2.1, t0.2.2.2) (1 : Int32)) (dt_X7_goesAll_1 ((va_up t0.1 6 z4), t0.2.1, t0.2.2.1, t0.2.2.2) (1 : Int32)) (fun r_34 u_35 => (dt_n (ih m9 u_35 z1 z2 z3 z4 (z5 + 1)) (h_post 0 u_35)))))))))
    cases m with
    | zero => exact dt_0 (key 0)
    | succ m9 => exact key m9
set_option maxHeartbeats 4000000 in
theorem dl_X7_goesTimes_2_L90b  {O : Type} {G_post G2_post : Int32 → Md → (O → Prop) → Prop} {G_e141 G2_e141 : Md → Int32 → Int32 → Int32 → Int32 → Int32 → (O → Prop) → Prop} (h_post : ∀ v0 v1, dt (G_post v0 v1) (G2_post v0 v1)) (h_e141 : ∀ v0 v1 v2 v3 v4 v5, dt (G_e141 v0 v1 v2 v3 v4 v5) (G2_e141 v0 v1 v2 v3 v4 v5)) : ∀ (n m : Nat) (t0 : Md) (z1 : Int32) (z2 : Int32) (z3 : Int32) (z4 : Int32) (z5 : Int32), dt (fun P : O → Prop => wp_X7_goesTimes_2_L90b (fun v0 v1 => G_post v0 v1 P) (fun v0 v1 v2 v3 v4 v5 => G_e141 v0 v1 v2 v3 v4 v5 P) n t0 z1 z2 z3 z4 z5) (fun P : O → Prop => wp_X7_goesTimes_2_L90b (fun v0 v1 => G2_post v0 v1 P) (fun v0 v1 v2 v3 v4 v5 => G2_e141 v0 v1 v2 v3 v4 v5 P) m t0 z1 z2 z3 z4 z5) := by
  intro n
  induction n with
  | zero => exact fun _ _ _ _ _ _ _ => dt_F
  | succ n90 ih =>
    intro m t0 z1 z2 z3 z4 z5
    have key : ∀ m9 : Nat, dt (fun P : O → Prop => wp_X7_goesTimes_2_L90b (fun v0 v1 => G_post v0 v1 P) (fun v0 v1 v2 v3 v4 v5 => G_e141 v0 v1 v2 v3 v4 v5 P) (n90 + 1) t0 z1 z2 z3 z4 z5) (fun P : O → Prop => wp_X7_goesTimes_2_L90b (fun v0 v1 => G2_post v0 v1 P) (fun v0 v1 v2 v3 v4 v5 => G2_e141 v0 v1 v2 v3 v4 v5 P) (m9 + 1) t0 z1 z2 z3 z4 z5) := by
      intro m9
      unfold wp_X7_goesTimes_2_L90b
      exact (dt_p (dt_p (dt_b2 (F := fun k => wp_X7_goesAll_1 k ((va_up t0.1 6 z4), t0.2.1, t0.2.2.1, t0.2.2.2) (0 : Int32)) (dt_X7_goesAll_1 ((va_up t0.1 6 z4), t0.2.1, t0.2.2.1, t0.2.2.2) (0 : Int32)) (fun r_48 u_49 => (dt_n (ih m9 u_49 z1 z2 z3 z4 (z5 + 1)) (h_post 0 u_49)))) (dt_p (dt_b2 (F := fun k => wp_X7_goesAll_1 k ((va_up t0.1 6 z4), t0.2.1, t0.2.2.1, t0.2.2.2) (0 : Int32)) (dt_X7_goesAll_1 ((va_up t0.1 6 z4), t0.2.1, t0.2.2.1, t0.2.2.2) (0 : Int32)) (fun r_52 u_53 => (dt_n (ih m9 u_53 z1 z2 z3 z4 (z5 + 1)) (h_post 0 u_53)))) (dt_b2 (F := fun k => wp_X7_goesAll_1 k ((va_up t0.1 6 z4), t0.2.1, t0.2.2.1, t0.2.2.2) (1 : Int32)) (dt_X7_goesAll_1 ((va_up t0.1 6 z4), t0.2.1, t0.2.2.1, t0.2.2.2) (1 : Int32)) (fun r_55 u_56 => (dt_n (ih m9 u_56 z1 z2 z3 z4 (z5 + 1)) (h_post 0 u_56)))))) (dt_p (h_e141 t0 z1 z2 z3 z4 z5) (dt_p (h_e141 t0 z1 z2 z3 z4 z5) (dt_p (dt_b2 (F := fun k => wp_X7_goesAll_1 k ((va_up t0.1 6 z4), t0.2.1, t0.2.2.1, t0.2.2.2) (0 : Int32)) (dt_X7_goesAll_1 ((va_up t0.1 6 z4), t0.2.1, t0.2.2.1, t0.2.2.2) (0 : Int32)) (fun r_61 u_62 => (dt_n (ih m9 u_62 z1 z2 z3 z4 (z5 + 1)) (h_post 0 u_62)))) (dt_p (dt_b2 (F := fun k => wp_X7_goesAll_1 k ((va_up t0.1 6 z4), t0.2.1, t0.2.2.1, t0.2.2.2) (0 : Int32)) (dt_X7_goesAll_1 ((va_up t0.1 6 z4), t0.2.1, t0.2.2.1, t0.2.2.2) (0 : Int32)) (fun r_65 u_66 => (dt_n (ih m9 u_66 z1 z2 z3 z4 (z5 + 1)) (h_post 0 u_66)))) (dt_b2 (F := fun k => wp_X7_goesAll_1 k ((va_up t0.1 6 z4), t0.2.1, t0.2.2.1, t0.2.2.2) (1 : Int32)) (dt_X7_goesAll_1 ((va_up t0.1 6 z4), t0.2.1, t0.2.2.1, t0.2.2.2) (1 : Int32)) (fun r_68 u_69 => (dt_n (ih m9 u_69 z1 z2 z3 z4 (z5 + 1)) (h_post 0 u_69)))))))))
    cases m with
    | zero => exact dt_0 (key 0)
    | succ m9 => exact key m9
set_option maxHeartbeats 4000000 in
theorem dt_X7_goesTimes_2 (s0 : Md) (x1 : Int32) : dt (fun P : (Int32 × Md) → Prop => wp_X7_goesTimes_2 (fun a0 a1 => P (a0, a1)) s0 x1) (fun P : (Int32 × Md) → Prop => wp_X7_goesTimes_2 (fun a0 a1 => P (a0, a1)) s0 x1) := by
  unfold wp_X7_goesTimes_2
  exact (dt_b2 (F := fun k => wp_X7_readsNumber k ((va_up s0.1 6 ((s0.1 6) + 5)), s0.2.1, s0.2.2.1, s0.2.2.2) (0 : Int32) (20 : Int32)) (dt_X7_readsNumber ((va_up s0.1 6 ((s0.1 6) + 5)), s0.2.1, s0.2.2.1, s0.2.2.2) (0 : Int32) (20 : Int32)) (fun r_1 u_2 => (dt_n (dt_b2 (F := fun k => wp_X7_nextByte k u_2) (dt_X7_nextByte u_2) (fun r_4 u_5 => (dt_n (dt_b2 (F := fun k => wp_X7_mustByte k u_5 (40 : Int32)) (dt_X7_mustByte u_5 (40 : Int32)) (fun r_7 u_8 => (dt_n (dt_b2 (F := fun k => wp_X7_isDone k u_8 x1) (dt_X7_isDone u_8 x1) (fun r_10 u_11 => (dt_x (fun n90 m_n90 => (dl_X7_goesTimes_2_L90  (fun v0 v1 => (dt_r _)) (fun t0 z1 z2 z3 z4 z5 => (dt_b2 (F := fun k => wp_X7_mustByte k t0 (41 : Int32)) (dt_X7_mustByte t0 (41 : Int32)) (fun r_37 u_38 => (dt_n (dt_r _) (dt_r _))))) n90 m_n90 ((va_up u_11.1 14 ((u_11.1 14) + 1)), u_11.2.1, u_11.2.2.1, u_11.2.2.2) x1 (u_2.1 8) r_10 (u_11.1 6) 0))))) (dt_r _)))) (dt_n (dt_b2 (F := fun k => wp_X7_mustByte k u_5 (40 : Int32)) (dt_X7_mustByte u_5 (40 : Int32)) (fun r_41 u_42 => (dt_n (dt_b2 (F := fun k => wp_X7_isDone k u_42 x1) (dt_X7_isDone u_42 x1) (fun r_44 u_45 => (dt_x (fun n90 m_n90 => (dl_X7_goesTimes_2_L90b  (fun v0 v1 => (dt_r _)) (fun t0 z1 z2 z3 z4 z5 => (dt_b2 (F := fun k => wp_X7_mustByte k t0 (41 : Int32)) (dt_X7_mustByte t0 (41 : Int32)) (fun r_71 u_72 => (dt_n (dt_r _) (dt_r _))))) n90 m_n90 ((va_up u_45.1 14 ((u_45.1 14) + 1)), u_45.2.1, u_45.2.2.1, u_45.2.2.2) x1 (u_2.1 8) r_44 (u_45.1 6) 0))))) (dt_r _)))) (dt_b2 (F := fun k => wp_X7_fails k u_5 (3 : Int32) (u_5.1 6)) (dt_X7_fails u_5 (3 : Int32) (u_5.1 6)) (fun r_74 u_75 => (dt_c (dt_r _)))))))) (dt_r _))))
set_option maxHeartbeats 4000000 in
theorem dt_X7_goesOne_2 (s0 : Md) (x1 : Int32) : dt (fun P : (Int32 × Md) → Prop => wp_X7_goesOne_2 (fun a0 a1 => P (a0, a1)) s0 x1) (fun P : (Int32 × Md) → Prop => wp_X7_goesOne_2 (fun a0 a1 => P (a0, a1)) s0 x1) := by
  unfold wp_X7_goesOne_2
  exact (dt_b2 (F := fun k => wp_X7_isWord k s0 5) (dt_X7_isWord s0 5) (fun r_1 u_2 => (dt_p (dt_b2 (F := fun k => wp_X7_isWord k u_2 7) (dt_X7_isWord u_2 7) (fun r_4 u_5 => (dt_p (dt_b2 (F := fun k => wp_X7_isWord k u_5 8) (dt_X7_isWord u_5 8) (fun r_7 u_8 => (dt_p (dt_b2 (F := fun k => wp_X7_isWord k u_8 9) (dt_X7_isWord u_8 9) (fun r_10 u_11 => (dt_p (dt_b2 (F := fun k => wp_X7_isWord k u_11 10) (dt_X7_isWord u_11 10) (fun r_13 u_14 => (dt_p (dt_b2 (F := fun k => wp_X7_isWord k u_14 6) (dt_X7_isWord u_14 6) (fun r_16 u_17 => (dt_p (dt_b2 (F := fun k => wp_X7_isWord k u_17 11) (dt_X7_isWord u_17 11) (fun r_19 u_20 => (dt_p (dt_b2 (F := fun k => wp_X7_fails k u_20 (1 : Int32) (u_20.1 6)) (dt_X7_fails u_20 (1 : Int32) (u_20.1 6)) (fun r_22 u_23 => (dt_c (dt_r _)))) (dt_b2 (F := fun k => wp_X7_goesTimes_2 k u_20 x1) (dt_X7_goesTimes_2 u_20 x1) (fun r_25 u_26 => (dt_c (dt_r _))))))) (dt_b2 (F := fun k => wp_X7_goesLose k u_17 x1) (dt_X7_goesLose u_17 x1) (fun r_28 u_29 => (dt_c (dt_r _))))))) (dt_b2 (F := fun k => wp_X7_goesSettle k u_14 x1) (dt_X7_goesSettle u_14 x1) (fun r_31 u_32 => (dt_c (dt_r _))))))) (dt_b2 (F := fun k => wp_X7_goesWait k u_11 x1) (dt_X7_goesWait u_11 x1) (fun r_34 u_35 => (dt_c (dt_r _))))))) (dt_b2 (F := fun k => wp_X7_goesHome k u_8 x1) (dt_X7_goesHome u_8 x1) (fun r_37 u_38 => (dt_c (dt_r _))))))) (dt_b2 (F := fun k => wp_X7_goesScroll k u_5 x1) (dt_X7_goesScroll u_5 x1) (fun r_40 u_41 => (dt_c (dt_r _))))))) (dt_b2 (F := fun k => wp_X7_goesRow k u_2 x1) (dt_X7_goesRow u_2 x1) (fun r_43 u_44 => (dt_c (dt_r _)))))))
set_option maxHeartbeats 4000000 in
theorem dl_X7_goesAll_2_L10  {O : Type} {G_post G2_post : Int32 → Md → (O → Prop) → Prop} {G_e27 G2_e27 : Md → Int32 → (O → Prop) → Prop} {G_e29 G2_e29 : Md → Int32 → (O → Prop) → Prop} (h_post : ∀ v0 v1, dt (G_post v0 v1) (G2_post v0 v1)) (h_e27 : ∀ v0 v1, dt (G_e27 v0 v1) (G2_e27 v0 v1)) (h_e29 : ∀ v0 v1, dt (G_e29 v0 v1) (G2_e29 v0 v1)) : ∀ (n m : Nat) (t0 : Md) (z1 : Int32), dt (fun P : O → Prop => wp_X7_goesAll_2_L10 (fun v0 v1 => G_post v0 v1 P) (fun v0 v1 => G_e27 v0 v1 P) (fun v0 v1 => G_e29 v0 v1 P) n t0 z1) (fun P : O → Prop => wp_X7_goesAll_2_L10 (fun v0 v1 => G2_post v0 v1 P) (fun v0 v1 => G2_e27 v0 v1 P) (fun v0 v1 => G2_e29 v0 v1 P) m t0 z1) := by
  intro n
  induction n with
  | zero => exact fun _ _ _ => dt_F
  | succ n10 ih =>
    intro m t0 z1
    have key : ∀ m9 : Nat, dt (fun P : O → Prop => wp_X7_goesAll_2_L10 (fun v0 v1 => G_post v0 v1 P) (fun v0 v1 => G_e27 v0 v1 P) (fun v0 v1 => G_e29 v0 v1 P) (n10 + 1) t0 z1) (fun P : O → Prop => wp_X7_goesAll_2_L10 (fun v0 v1 => G2_post v0 v1 P) (fun v0 v1 => G2_e27 v0 v1 P) (fun v0 v1 => G2_e29 v0 v1 P) (m9 + 1) t0 z1) := by
      intro m9
      unfold wp_X7_goesAll_2_L10
      exact (dt_b2 (F := fun k => wp_X7_takesByte k t0 (59 : Int32)) (dt_X7_takesByte t0 (59 : Int32)) (fun r_4 u_5 => (dt_p (h_e29 u_5 z1) (dt_b2 (F := fun k => wp_X7_goesOne_2 k u_5 z1) (dt_X7_goesOne_2 u_5 z1) (fun r_7 u_8 => (dt_n (ih m9 u_8 z1) (h_e27 u_8 z1)))))))
    cases m with
    | zero => exact dt_0 (key 0)
    | succ m9 => exact key m9
set_option maxHeartbeats 4000000 in
theorem dt_X7_goesAll_2 (s0 : Md) (x1 : Int32) : dt (fun P : (Int32 × Md) → Prop => wp_X7_goesAll_2 (fun a0 a1 => P (a0, a1)) s0 x1) (fun P : (Int32 × Md) → Prop => wp_X7_goesAll_2 (fun a0 a1 => P (a0, a1)) s0 x1) := by
  unfold wp_X7_goesAll_2
  exact (dt_b2 (F := fun k => wp_X7_goesOne_2 k s0 x1) (dt_X7_goesOne_2 s0 x1) (fun r_1 u_2 => (dt_n (dt_x (fun n10 m_n10 => (dl_X7_goesAll_2_L10  (fun v0 v1 => (dt_r _)) (fun t0 z1 => (dt_r _)) (fun t0 z1 => (dt_r _)) n10 m_n10 u_2 x1))) (dt_r _))))
set_option maxHeartbeats 4000000 in
theorem dl_X7_goesTimes_3_L90  {O : Type} {G_post G2_post : Int32 → Md → (O → Prop) → Prop} {G_e141 G2_e141 : Md → Int32 → Int32 → Int32 → Int32 → Int32 → (O → Prop) → Prop} (h_post : ∀ v0 v1, dt (G_post v0 v1) (G2_post v0 v1)) (h_e141 : ∀ v0 v1 v2 v3 v4 v5, dt (G_e141 v0 v1 v2 v3 v4 v5) (G2_e141 v0 v1 v2 v3 v4 v5)) : ∀ (n m : Nat) (t0 : Md) (z1 : Int32) (z2 : Int32) (z3 : Int32) (z4 : Int32) (z5 : Int32), dt (fun P : O → Prop => wp_X7_goesTimes_3_L90 (fun v0 v1 => G_post v0 v1 P) (fun v0 v1 v2 v3 v4 v5 => G_e141 v0 v1 v2 v3 v4 v5 P) n t0 z1 z2 z3 z4 z5) (fun P : O → Prop => wp_X7_goesTimes_3_L90 (fun v0 v1 => G2_post v0 v1 P) (fun v0 v1 v2 v3 v4 v5 => G2_e141 v0 v1 v2 v3 v4 v5 P) m t0 z1 z2 z3 z4 z5) := by
  intro n
  induction n with
  | zero => exact fun _ _ _ _ _ _ _ => dt_F
  | succ n90 ih =>
    intro m t0 z1 z2 z3 z4 z5
    have key : ∀ m9 : Nat, dt (fun P : O → Prop => wp_X7_goesTimes_3_L90 (fun v0 v1 => G_post v0 v1 P) (fun v0 v1 v2 v3 v4 v5 => G_e141 v0 v1 v2 v3 v4 v5 P) (n90 + 1) t0 z1 z2 z3 z4 z5) (fun P : O → Prop => wp_X7_goesTimes_3_L90 (fun v0 v1 => G2_post v0 v1 P) (fun v0 v1 v2 v3 v4 v5 => G2_e141 v0 v1 v2 v3 v4 v5 P) (m9 + 1) t0 z1 z2 z3 z4 z5) := by
      intro m9
      unfold wp_X7_goesTimes_3_L90
      exact (dt_p (dt_p (dt_b2 (F := fun k => wp_X7_goesAll_2 k ((va_up t0.1 6 z4), t0.2.1, t0.2.2.1, t0.2.2.2) (0 : Int32)) (dt_X7_goesAll_2 ((va_up t0.1 6 z4), t0.2.1, t0.2.2.1, t0.2.2.2) (0 : Int32)) (fun r_14 u_15 => (dt_n (ih m9 u_15 z1 z2 z3 z4 (z5 + 1)) (h_post 0 u_15)))) (dt_p (dt_b2 (F := fun k => wp_X7_goesAll_2 k ((va_up t0.1 6 z4), t0.2.1, t0.2.2.1, t0.2.2.2) (0 : Int32)) (dt_X7_goesAll_2 ((va_up t0.1 6 z4), t0.2.1, t0.2.2.1, t0.2.2.2) (0 : Int32)) (fun r_18 u_19 => (dt_n (ih m9 u_19 z1 z2 z3 z4 (z5 + 1)) (h_post 0 u_19)))) (dt_b2 (F := fun k => wp_X7_goesAll_2 k ((va_up t0.1 6 z4), t0.2.1, t0.2.2.1, t0.2.2.2) (1 : Int32)) (dt_X7_goesAll_2 ((va_up t0.1 6 z4), t0.2.1, t0.2.2.1, t0.2.2.2) (1 : Int32)) (fun r_21 u_22 => (dt_n (ih m9 u_22 z1 z2 z3 z4 (z5 + 1)) (h_post 0 u_22)))))) (dt_p (h_e141 t0 z1 z2 z3 z4 z5) (dt_p (h_e141 t0 z1 z2 z3 z4 z5) (dt_p (dt_b2 (F := fun k => wp_X7_goesAll_2 k ((va_up t0.1 6 z4), t0.2.1, t0.2.2.1, t0.2.2.2) (0 : Int32)) (dt_X7_goesAll_2 ((va_up t0.1 6 z4), t0.2.1, t0.2.2.1, t0.2.2.2) (0 : Int32)) (fun r_27 u_28 => (dt_n (ih m9 u_28 z1 z2 z3 z4 (z5 + 1)) (h_post 0 u_28)))) (dt_p (dt_b2 (F := fun k => wp_X7_goesAll_2 k ((va_up t0.1 6 z4), t0.2.1, t0.2.2.1, t0.2.2.2) (0 : Int32)) (dt_X7_goesAll_2 ((va_up t0.1 6 z4), t0.2.1, t0.2.2.1, t0.2.2.2) (0 : Int32)) (fun r_31 u_32 => (dt_n (ih m9 u_32 z1 z2 z3 z4 (z5 + 1)) (h_post 0 u_32)))) (dt_b2 (F := fun k => wp_X7_goesAll_2 k ((va_up t0.1 6 z4), t0.2.1, t0.2.2.1, t0.2.2.2) (1 : Int32)) (dt_X7_goesAll_2 ((va_up t0.1 6 z4), t0.2.1, t0.2.2.1, t0.2.2.2) (1 : Int32)) (fun r_34 u_35 => (dt_n (ih m9 u_35 z1 z2 z3 z4 (z5 + 1)) (h_post 0 u_35)))))))))
    cases m with
    | zero => exact dt_0 (key 0)
    | succ m9 => exact key m9
set_option maxHeartbeats 4000000 in
theorem dl_X7_goesTimes_3_L90b  {O : Type} {G_post G2_post : Int32 → Md → (O → Prop) → Prop} {G_e141 G2_e141 : Md → Int32 → Int32 → Int32 → Int32 → Int32 → (O → Prop) → Prop} (h_post : ∀ v0 v1, dt (G_post v0 v1) (G2_post v0 v1)) (h_e141 : ∀ v0 v1 v2 v3 v4 v5, dt (G_e141 v0 v1 v2 v3 v4 v5) (G2_e141 v0 v1 v2 v3 v4 v5)) : ∀ (n m : Nat) (t0 : Md) (z1 : Int32) (z2 : Int32) (z3 : Int32) (z4 : Int32) (z5 : Int32), dt (fun P : O → Prop => wp_X7_goesTimes_3_L90b (fun v0 v1 => G_post v0 v1 P) (fun v0 v1 v2 v3 v4 v5 => G_e141 v0 v1 v2 v3 v4 v5 P) n t0 z1 z2 z3 z4 z5) (fun P : O → Prop => wp_X7_goesTimes_3_L90b (fun v0 v1 => G2_post v0 v1 P) (fun v0 v1 v2 v3 v4 v5 => G2_e141 v0 v1 v2 v3 v4 v5 P) m t0 z1 z2 z3 z4 z5) := by
  intro n
  induction n with
  | zero => exact fun _ _ _ _ _ _ _ => dt_F
  | succ n90 ih =>
    intro m t0 z1 z2 z3 z4 z5
    have key : ∀ m9 : Nat, dt (fun P : O → Prop => wp_X7_goesTimes_3_L90b (fun v0 v1 => G_post v0 v1 P) (fun v0 v1 v2 v3 v4 v5 => G_e141 v0 v1 v2 v3 v4 v5 P) (n90 + 1) t0 z1 z2 z3 z4 z5) (fun P : O → Prop => wp_X7_goesTimes_3_L90b (fun v0 v1 => G2_post v0 v1 P) (fun v0 v1 v2 v3 v4 v5 => G2_e141 v0 v1 v2 v3 v4 v5 P) (m9 + 1) t0 z1 z2 z3 z4 z5) := by
      intro m9
      unfold wp_X7_goesTimes_3_L90b
      exact (dt_p (dt_p (dt_b2 (F := fun k => wp_X7_goesAll_2 k ((va_up t0.1 6 z4), t0.2.1, t0.2.2.1, t0.2.2.2) (0 : Int32)) (dt_X7_goesAll_2 ((va_up t0.1 6 z4), t0.2.1, t0.2.2.1, t0.2.2.2) (0 : Int32)) (fun r_48 u_49 => (dt_n (ih m9 u_49 z1 z2 z3 z4 (z5 + 1)) (h_post 0 u_49)))) (dt_p (dt_b2 (F := fun k => wp_X7_goesAll_2 k ((va_up t0.1 6 z4), t0.2.1, t0.2.2.1, t0.2.2.2) (0 : Int32)) (dt_X7_goesAll_2 ((va_up t0.1 6 z4), t0.2.1, t0.2.2.1, t0.2.2.2) (0 : Int32)) (fun r_52 u_53 => (dt_n (ih m9 u_53 z1 z2 z3 z4 (z5 + 1)) (h_post 0 u_53)))) (dt_b2 (F := fun k => wp_X7_goesAll_2 k ((va_up t0.1 6 z4), t0.2.1, t0.2.2.1, t0.2.2.2) (1 : Int32)) (dt_X7_goesAll_2 ((va_up t0.1 6 z4), t0.2.1, t0.2.2.1, t0.2.2.2) (1 : Int32)) (fun r_55 u_56 => (dt_n (ih m9 u_56 z1 z2 z3 z4 (z5 + 1)) (h_post 0 u_56)))))) (dt_p (h_e141 t0 z1 z2 z3 z4 z5) (dt_p (h_e141 t0 z1 z2 z3 z4 z5) (dt_p (dt_b2 (F := fun k => wp_X7_goesAll_2 k ((va_up t0.1 6 z4), t0.2.1, t0.2.2.1, t0.2.2.2) (0 : Int32)) (dt_X7_goesAll_2 ((va_up t0.1 6 z4), t0.2.1, t0.2.2.1, t0.2.2.2) (0 : Int32)) (fun r_61 u_62 => (dt_n (ih m9 u_62 z1 z2 z3 z4 (z5 + 1)) (h_post 0 u_62)))) (dt_p (dt_b2 (F := fun k => wp_X7_goesAll_2 k ((va_up t0.1 6 z4), t0.2.1, t0.2.2.1, t0.2.2.2) (0 : Int32)) (dt_X7_goesAll_2 ((va_up t0.1 6 z4), t0.2.1, t0.2.2.1, t0.2.2.2) (0 : Int32)) (fun r_65 u_66 => (dt_n (ih m9 u_66 z1 z2 z3 z4 (z5 + 1)) (h_post 0 u_66)))) (dt_b2 (F := fun k => wp_X7_goesAll_2 k ((va_up t0.1 6 z4), t0.2.1, t0.2.2.1, t0.2.2.2) (1 : Int32)) (dt_X7_goesAll_2 ((va_up t0.1 6 z4), t0.2.1, t0.2.2.1, t0.2.2.2) (1 : Int32)) (fun r_68 u_69 => (dt_n (ih m9 u_69 z1 z2 z3 z4 (z5 + 1)) (h_post 0 u_69)))))))))
    cases m with
    | zero => exact dt_0 (key 0)
    | succ m9 => exact key m9
set_option maxHeartbeats 4000000 in
theorem dt_X7_goesTimes_3 (s0 : Md) (x1 : Int32) : dt (fun P : (Int32 × Md) → Prop => wp_X7_goesTimes_3 (fun a0 a1 => P (a0, a1)) s0 x1) (fun P : (Int32 × Md) → Prop => wp_X7_goesTimes_3 (fun a0 a1 => P (a0, a1)) s0 x1) := by
  unfold wp_X7_goesTimes_3
  exact (dt_b2 (F := fun k => wp_X7_readsNumber k ((va_up s0.1 6 ((s0.1 6) + 5)), s0.2.1, s0.2.2.1, s0.2.2.2) (0 : Int32) (20 : Int32)) (dt_X7_readsNumber ((va_up s0.1 6 ((s0.1 6) + 5)), s0.2.1, s0.2.2.1, s0.2.2.2) (0 : Int32) (20 : Int32)) (fun r_1 u_2 => (dt_n (dt_b2 (F := fun k => wp_X7_nextByte k u_2) (dt_X7_nextByte u_2) (fun r_4 u_5 => (dt_n (dt_b2 (F := fun k => wp_X7_mustByte k u_5 (40 : Int32)) (dt_X7_mustByte u_5 (40 : Int32)) (fun r_7 u_8 => (dt_n (dt_b2 (F := fun k => wp_X7_isDone k u_8 x1) (dt_X7_isDone u_8 x1) (fun r_10 u_11 => (dt_x (fun n90 m_n90 => (dl_X7_goesTimes_3_L90  (fun v0 v1 => (dt_r _)) (fun t0 z1 z2 z3 z4 z5 => (dt_b2 (F := fun k => wp_X7_mustByte k t0 (41 : Int32)) (dt_X7_mustByte t0 (41 : Int32)) (fun r_37 u_38 => (dt_n (dt_r _) (dt_r _))))) n90 m_n90 ((va_up u_11.1 14 ((u_11.1 14) + 1)), u_11.2.1, u_11.2.2.1, u_11.2.2.2) x1 (u_2.1 8) r_10 (u_11.1 6) 0))))) (dt_r _)))) (dt_n (dt_b2 (F := fun k => wp_X7_mustByte k u_5 (40 : Int32)) (dt_X7_mustByte u_5 (40 : Int32)) (fun r_41 u_42 => (dt_n (dt_b2 (F := fun k => wp_X7_isDone k u_42 x1) (dt_X7_isDone u_42 x1) (fun r_44 u_45 => (dt_x (fun n90 m_n90 => (dl_X7_goesTimes_3_L90b  (fun v0 v1 => (dt_r _)) (fun t0 z1 z2 z3 z4 z5 => (dt_b2 (F := fun k => wp_X7_mustByte k t0 (41 : Int32)) (dt_X7_mustByte t0 (41 : Int32)) (fun r_71 u_72 => (dt_n (dt_r _) (dt_r _))))) n90 m_n90 ((va_up u_45.1 14 ((u_45.1 14) + 1)), u_45.2.1, u_45.2.2.1, u_45.2.2.2) x1 (u_2.1 8) r_44 (u_45.1 6) 0))))) (dt_r _)))) (dt_b2 (F := fun k => wp_X7_fails k u_5 (3 : Int32) (u_5.1 6)) (dt_X7_fails u_5 (3 : Int32) (u_5.1 6)) (fun r_74 u_75 => (dt_c (dt_r _)))))))) (dt_r _))))
set_option maxHeartbeats 4000000 in
theorem dt_X7_goesOne_3 (s0 : Md) (x1 : Int32) : dt (fun P : (Int32 × Md) → Prop => wp_X7_goesOne_3 (fun a0 a1 => P (a0, a1)) s0 x1) (fun P : (Int32 × Md) → Prop => wp_X7_goesOne_3 (fun a0 a1 => P (a0, a1)) s0 x1) := by
  unfold wp_X7_goesOne_3
  exact (dt_b2 (F := fun k => wp_X7_isWord k s0 5) (dt_X7_isWord s0 5) (fun r_1 u_2 => (dt_p (dt_b2 (F := fun k => wp_X7_isWord k u_2 7) (dt_X7_isWord u_2 7) (fun r_4 u_5 => (dt_p (dt_b2 (F := fun k => wp_X7_isWord k u_5 8) (dt_X7_isWord u_5 8) (fun r_7 u_8 => (dt_p (dt_b2 (F := fun k => wp_X7_isWord k u_8 9) (dt_X7_isWord u_8 9) (fun r_10 u_11 => (dt_p (dt_b2 (F := fun k => wp_X7_isWord k u_11 10) (dt_X7_isWord u_11 10) (fun r_13 u_14 => (dt_p (dt_b2 (F := fun k => wp_X7_isWord k u_14 6) (dt_X7_isWord u_14 6) (fun r_16 u_17 => (dt_p (dt_b2 (F := fun k => wp_X7_isWord k u_17 11) (dt_X7_isWord u_17 11) (fun r_19 u_20 => (dt_p (dt_b2 (F := fun k => wp_X7_fails k u_20 (1 : Int32) (u_20.1 6)) (dt_X7_fails u_20 (1 : Int32) (u_20.1 6)) (fun r_22 u_23 => (dt_c (dt_r _)))) (dt_b2 (F := fun k => wp_X7_goesTimes_3 k u_20 x1) (dt_X7_goesTimes_3 u_20 x1) (fun r_25 u_26 => (dt_c (dt_r _))))))) (dt_b2 (F := fun k => wp_X7_goesLose k u_17 x1) (dt_X7_goesLose u_17 x1) (fun r_28 u_29 => (dt_c (dt_r _))))))) (dt_b2 (F := fun k => wp_X7_goesSettle k u_14 x1) (dt_X7_goesSettle u_14 x1) (fun r_31 u_32 => (dt_c (dt_r _))))))) (dt_b2 (F := fun k => wp_X7_goesWait k u_11 x1) (dt_X7_goesWait u_11 x1) (fun r_34 u_35 => (dt_c (dt_r _))))))) (dt_b2 (F := fun k => wp_X7_goesHome k u_8 x1) (dt_X7_goesHome u_8 x1) (fun r_37 u_38 => (dt_c (dt_r _))))))) (dt_b2 (F := fun k => wp_X7_goesScroll k u_5 x1) (dt_X7_goesScroll u_5 x1) (fun r_40 u_41 => (dt_c (dt_r _))))))) (dt_b2 (F := fun k => wp_X7_goesRow k u_2 x1) (dt_X7_goesRow u_2 x1) (fun r_43 u_44 => (dt_c (dt_r _)))))))
set_option maxHeartbeats 4000000 in
theorem dl_X7_goesAll_3_L10  {O : Type} {G_post G2_post : Int32 → Md → (O → Prop) → Prop} {G_e27 G2_e27 : Md → Int32 → (O → Prop) → Prop} {G_e29 G2_e29 : Md → Int32 → (O → Prop) → Prop} (h_post : ∀ v0 v1, dt (G_post v0 v1) (G2_post v0 v1)) (h_e27 : ∀ v0 v1, dt (G_e27 v0 v1) (G2_e27 v0 v1)) (h_e29 : ∀ v0 v1, dt (G_e29 v0 v1) (G2_e29 v0 v1)) : ∀ (n m : Nat) (t0 : Md) (z1 : Int32), dt (fun P : O → Prop => wp_X7_goesAll_3_L10 (fun v0 v1 => G_post v0 v1 P) (fun v0 v1 => G_e27 v0 v1 P) (fun v0 v1 => G_e29 v0 v1 P) n t0 z1) (fun P : O → Prop => wp_X7_goesAll_3_L10 (fun v0 v1 => G2_post v0 v1 P) (fun v0 v1 => G2_e27 v0 v1 P) (fun v0 v1 => G2_e29 v0 v1 P) m t0 z1) := by
  intro n
  induction n with
  | zero => exact fun _ _ _ => dt_F
  | succ n10 ih =>
    intro m t0 z1
    have key : ∀ m9 : Nat, dt (fun P : O → Prop => wp_X7_goesAll_3_L10 (fun v0 v1 => G_post v0 v1 P) (fun v0 v1 => G_e27 v0 v1 P) (fun v0 v1 => G_e29 v0 v1 P) (n10 + 1) t0 z1) (fun P : O → Prop => wp_X7_goesAll_3_L10 (fun v0 v1 => G2_post v0 v1 P) (fun v0 v1 => G2_e27 v0 v1 P) (fun v0 v1 => G2_e29 v0 v1 P) (m9 + 1) t0 z1) := by
      intro m9
      unfold wp_X7_goesAll_3_L10
      exact (dt_b2 (F := fun k => wp_X7_takesByte k t0 (59 : Int32)) (dt_X7_takesByte t0 (59 : Int32)) (fun r_4 u_5 => (dt_p (h_e29 u_5 z1) (dt_b2 (F := fun k => wp_X7_goesOne_3 k u_5 z1) (dt_X7_goesOne_3 u_5 z1) (fun r_7 u_8 => (dt_n (ih m9 u_8 z1) (h_e27 u_8 z1)))))))
    cases m with
    | zero => exact dt_0 (key 0)
    | succ m9 => exact key m9
set_option maxHeartbeats 4000000 in
theorem dt_X7_goesAll_3 (s0 : Md) (x1 : Int32) : dt (fun P : (Int32 × Md) → Prop => wp_X7_goesAll_3 (fun a0 a1 => P (a0, a1)) s0 x1) (fun P : (Int32 × Md) → Prop => wp_X7_goesAll_3 (fun a0 a1 => P (a0, a1)) s0 x1) := by
  unfold wp_X7_goesAll_3
  exact (dt_b2 (F := fun k => wp_X7_goesOne_3 k s0 x1) (dt_X7_goesOne_3 s0 x1) (fun r_1 u_2 => (dt_n (dt_x (fun n10 m_n10 => (dl_X7_goesAll_3_L10  (fun v0 v1 => (dt_r _)) (fun t0 z1 => (dt_r _)) (fun t0 z1 => (dt_r _)) n10 m_n10 u_2 x1))) (dt_r _))))
set_option maxHeartbeats 4000000 in
theorem dl_X7_goesTimes_4_L90  {O : Type} {G_post G2_post : Int32 → Md → (O → Prop) → Prop} {G_e141 G2_e141 : Md → Int32 → Int32 → Int32 → Int32 → Int32 → (O → Prop) → Prop} (h_post : ∀ v0 v1, dt (G_post v0 v1) (G2_post v0 v1)) (h_e141 : ∀ v0 v1 v2 v3 v4 v5, dt (G_e141 v0 v1 v2 v3 v4 v5) (G2_e141 v0 v1 v2 v3 v4 v5)) : ∀ (n m : Nat) (t0 : Md) (z1 : Int32) (z2 : Int32) (z3 : Int32) (z4 : Int32) (z5 : Int32), dt (fun P : O → Prop => wp_X7_goesTimes_4_L90 (fun v0 v1 => G_post v0 v1 P) (fun v0 v1 v2 v3 v4 v5 => G_e141 v0 v1 v2 v3 v4 v5 P) n t0 z1 z2 z3 z4 z5) (fun P : O → Prop => wp_X7_goesTimes_4_L90 (fun v0 v1 => G2_post v0 v1 P) (fun v0 v1 v2 v3 v4 v5 => G2_e141 v0 v1 v2 v3 v4 v5 P) m t0 z1 z2 z3 z4 z5) := by
  intro n
  induction n with
  | zero => exact fun _ _ _ _ _ _ _ => dt_F
  | succ n90 ih =>
    intro m t0 z1 z2 z3 z4 z5
    have key : ∀ m9 : Nat, dt (fun P : O → Prop => wp_X7_goesTimes_4_L90 (fun v0 v1 => G_post v0 v1 P) (fun v0 v1 v2 v3 v4 v5 => G_e141 v0 v1 v2 v3 v4 v5 P) (n90 + 1) t0 z1 z2 z3 z4 z5) (fun P : O → Prop => wp_X7_goesTimes_4_L90 (fun v0 v1 => G2_post v0 v1 P) (fun v0 v1 v2 v3 v4 v5 => G2_e141 v0 v1 v2 v3 v4 v5 P) (m9 + 1) t0 z1 z2 z3 z4 z5) := by
      intro m9
      unfold wp_X7_goesTimes_4_L90
      exact (dt_p (dt_p (dt_b2 (F := fun k => wp_X7_goesAll_3 k ((va_up t0.1 6 z4), t0.2.1, t0.2.2.1, t0.2.2.2) (0 : Int32)) (dt_X7_goesAll_3 ((va_up t0.1 6 z4), t0.2.1, t0.2.2.1, t0.2.2.2) (0 : Int32)) (fun r_14 u_15 => (dt_n (ih m9 u_15 z1 z2 z3 z4 (z5 + 1)) (h_post 0 u_15)))) (dt_p (dt_b2 (F := fun k => wp_X7_goesAll_3 k ((va_up t0.1 6 z4), t0.2.1, t0.2.2.1, t0.2.2.2) (0 : Int32)) (dt_X7_goesAll_3 ((va_up t0.1 6 z4), t0.2.1, t0.2.2.1, t0.2.2.2) (0 : Int32)) (fun r_18 u_19 => (dt_n (ih m9 u_19 z1 z2 z3 z4 (z5 + 1)) (h_post 0 u_19)))) (dt_b2 (F := fun k => wp_X7_goesAll_3 k ((va_up t0.1 6 z4), t0.2.1, t0.2.2.1, t0.2.2.2) (1 : Int32)) (dt_X7_goesAll_3 ((va_up t0.1 6 z4), t0.2.1, t0.2.2.1, t0.2.2.2) (1 : Int32)) (fun r_21 u_22 => (dt_n (ih m9 u_22 z1 z2 z3 z4 (z5 + 1)) (h_post 0 u_22)))))) (dt_p (h_e141 t0 z1 z2 z3 z4 z5) (dt_p (h_e141 t0 z1 z2 z3 z4 z5) (dt_p (dt_b2 (F := fun k => wp_X7_goesAll_3 k ((va_up t0.1 6 z4), t0.2.1, t0.2.2.1, t0.2.2.2) (0 : Int32)) (dt_X7_goesAll_3 ((va_up t0.1 6 z4), t0.2.1, t0.2.2.1, t0.2.2.2) (0 : Int32)) (fun r_27 u_28 => (dt_n (ih m9 u_28 z1 z2 z3 z4 (z5 + 1)) (h_post 0 u_28)))) (dt_p (dt_b2 (F := fun k => wp_X7_goesAll_3 k ((va_up t0.1 6 z4), t0.2.1, t0.2.2.1, t0.2.2.2) (0 : Int32)) (dt_X7_goesAll_3 ((va_up t0.1 6 z4), t0.2.1, t0.2.2.1, t0.2.2.2) (0 : Int32)) (fun r_31 u_32 => (dt_n (ih m9 u_32 z1 z2 z3 z4 (z5 + 1)) (h_post 0 u_32)))) (dt_b2 (F := fun k => wp_X7_goesAll_3 k ((va_up t0.1 6 z4), t0.2.1, t0.2.2.1, t0.2.2.2) (1 : Int32)) (dt_X7_goesAll_3 ((va_up t0.1 6 z4), t0.2.1, t0.2.2.1, t0.2.2.2) (1 : Int32)) (fun r_34 u_35 => (dt_n (ih m9 u_35 z1 z2 z3 z4 (z5 + 1)) (h_post 0 u_35)))))))))
    cases m with
    | zero => exact dt_0 (key 0)
    | succ m9 => exact key m9
set_option maxHeartbeats 4000000 in
theorem dl_X7_goesTimes_4_L90b  {O : Type} {G_post G2_post : Int32 → Md → (O → Prop) → Prop} {G_e141 G2_e141 : Md → Int32 → Int32 → Int32 → Int32 → Int32 → (O → Prop) → Prop} (h_post : ∀ v0 v1, dt (G_post v0 v1) (G2_post v0 v1)) (h_e141 : ∀ v0 v1 v2 v3 v4 v5, dt (G_e141 v0 v1 v2 v3 v4 v5) (G2_e141 v0 v1 v2 v3 v4 v5)) : ∀ (n m : Nat) (t0 : Md) (z1 : Int32) (z2 : Int32) (z3 : Int32) (z4 : Int32) (z5 : Int32), dt (fun P : O → Prop => wp_X7_goesTimes_4_L90b (fun v0 v1 => G_post v0 v1 P) (fun v0 v1 v2 v3 v4 v5 => G_e141 v0 v1 v2 v3 v4 v5 P) n t0 z1 z2 z3 z4 z5) (fun P : O → Prop => wp_X7_goesTimes_4_L90b (fun v0 v1 => G2_post v0 v1 P) (fun v0 v1 v2 v3 v4 v5 => G2_e141 v0 v1 v2 v3 v4 v5 P) m t0 z1 z2 z3 z4 z5) := by
  intro n
  induction n with
  | zero => exact fun _ _ _ _ _ _ _ => dt_F
  | succ n90 ih =>
    intro m t0 z1 z2 z3 z4 z5
    have key : ∀ m9 : Nat, dt (fun P : O → Prop => wp_X7_goesTimes_4_L90b (fun v0 v1 => G_post v0 v1 P) (fun v0 v1 v2 v3 v4 v5 => G_e141 v0 v1 v2 v3 v4 v5 P) (n90 + 1) t0 z1 z2 z3 z4 z5) (fun P : O → Prop => wp_X7_goesTimes_4_L90b (fun v0 v1 => G2_post v0 v1 P) (fun v0 v1 v2 v3 v4 v5 => G2_e141 v0 v1 v2 v3 v4 v5 P) (m9 + 1) t0 z1 z2 z3 z4 z5) := by
      intro m9
      unfold wp_X7_goesTimes_4_L90b
      exact (dt_p (dt_p (dt_b2 (F := fun k => wp_X7_goesAll_3 k ((va_up t0.1 6 z4), t0.2.1, t0.2.2.1, t0.2.2.2) (0 : Int32)) (dt_X7_goesAll_3 ((va_up t0.1 6 z4), t0.2.1, t0.2.2.1, t0.2.2.2) (0 : Int32)) (fun r_48 u_49 => (dt_n (ih m9 u_49 z1 z2 z3 z4 (z5 + 1)) (h_post 0 u_49)))) (dt_p (dt_b2 (F := fun k => wp_X7_goesAll_3 k ((va_up t0.1 6 z4), t0.2.1, t0.2.2.1, t0.2.2.2) (0 : Int32)) (dt_X7_goesAll_3 ((va_up t0.1 6 z4), t0.2.1, t0.2.2.1, t0.2.2.2) (0 : Int32)) (fun r_52 u_53 => (dt_n (ih m9 u_53 z1 z2 z3 z4 (z5 + 1)) (h_post 0 u_53)))) (dt_b2 (F := fun k => wp_X7_goesAll_3 k ((va_up t0.1 6 z4), t0.2.1, t0.2.2.1, t0.2.2.2) (1 : Int32)) (dt_X7_goesAll_3 ((va_up t0.1 6 z4), t0.2.1, t0.2.2.1, t0.2.2.2) (1 : Int32)) (fun r_55 u_56 => (dt_n (ih m9 u_56 z1 z2 z3 z4 (z5 + 1)) (h_post 0 u_56)))))) (dt_p (h_e141 t0 z1 z2 z3 z4 z5) (dt_p (h_e141 t0 z1 z2 z3 z4 z5) (dt_p (dt_b2 (F := fun k => wp_X7_goesAll_3 k ((va_up t0.1 6 z4), t0.2.1, t0.2.2.1, t0.2.2.2) (0 : Int32)) (dt_X7_goesAll_3 ((va_up t0.1 6 z4), t0.2.1, t0.2.2.1, t0.2.2.2) (0 : Int32)) (fun r_61 u_62 => (dt_n (ih m9 u_62 z1 z2 z3 z4 (z5 + 1)) (h_post 0 u_62)))) (dt_p (dt_b2 (F := fun k => wp_X7_goesAll_3 k ((va_up t0.1 6 z4), t0.2.1, t0.2.2.1, t0.2.2.2) (0 : Int32)) (dt_X7_goesAll_3 ((va_up t0.1 6 z4), t0.2.1, t0.2.2.1, t0.2.2.2) (0 : Int32)) (fun r_65 u_66 => (dt_n (ih m9 u_66 z1 z2 z3 z4 (z5 + 1)) (h_post 0 u_66)))) (dt_b2 (F := fun k => wp_X7_goesAll_3 k ((va_up t0.1 6 z4), t0.2.1, t0.2.2.1, t0.2.2.2) (1 : Int32)) (dt_X7_goesAll_3 ((va_up t0.1 6 z4), t0.2.1, t0.2.2.1, t0.2.2.2) (1 : Int32)) (fun r_68 u_69 => (dt_n (ih m9 u_69 z1 z2 z3 z4 (z5 + 1)) (h_post 0 u_69)))))))))
    cases m with
    | zero => exact dt_0 (key 0)
    | succ m9 => exact key m9
set_option maxHeartbeats 4000000 in
theorem dt_X7_goesTimes_4 (s0 : Md) (x1 : Int32) : dt (fun P : (Int32 × Md) → Prop => wp_X7_goesTimes_4 (fun a0 a1 => P (a0, a1)) s0 x1) (fun P : (Int32 × Md) → Prop => wp_X7_goesTimes_4 (fun a0 a1 => P (a0, a1)) s0 x1) := by
  unfold wp_X7_goesTimes_4
  exact (dt_b2 (F := fun k => wp_X7_readsNumber k ((va_up s0.1 6 ((s0.1 6) + 5)), s0.2.1, s0.2.2.1, s0.2.2.2) (0 : Int32) (20 : Int32)) (dt_X7_readsNumber ((va_up s0.1 6 ((s0.1 6) + 5)), s0.2.1, s0.2.2.1, s0.2.2.2) (0 : Int32) (20 : Int32)) (fun r_1 u_2 => (dt_n (dt_b2 (F := fun k => wp_X7_nextByte k u_2) (dt_X7_nextByte u_2) (fun r_4 u_5 => (dt_n (dt_b2 (F := fun k => wp_X7_mustByte k u_5 (40 : Int32)) (dt_X7_mustByte u_5 (40 : Int32)) (fun r_7 u_8 => (dt_n (dt_b2 (F := fun k => wp_X7_isDone k u_8 x1) (dt_X7_isDone u_8 x1) (fun r_10 u_11 => (dt_x (fun n90 m_n90 => (dl_X7_goesTimes_4_L90  (fun v0 v1 => (dt_r _)) (fun t0 z1 z2 z3 z4 z5 => (dt_b2 (F := fun k => wp_X7_mustByte k t0 (41 : Int32)) (dt_X7_mustByte t0 (41 : Int32)) (fun r_37 u_38 => (dt_n (dt_r _) (dt_r _))))) n90 m_n90 ((va_up u_11.1 14 ((u_11.1 14) + 1)), u_11.2.1, u_11.2.2.1, u_11.2.2.2) x1 (u_2.1 8) r_10 (u_11.1 6) 0))))) (dt_r _)))) (dt_n (dt_b2 (F := fun k => wp_X7_mustByte k u_5 (40 : Int32)) (dt_X7_mustByte u_5 (40 : Int32)) (fun r_41 u_42 => (dt_n (dt_b2 (F := fun k => wp_X7_isDone k u_42 x1) (dt_X7_isDone u_42 x1) (fun r_44 u_45 => (dt_x (fun n90 m_n90 => (dl_X7_goesTimes_4_L90b  (fun v0 v1 => (dt_r _)) (fun t0 z1 z2 z3 z4 z5 => (dt_b2 (F := fun k => wp_X7_mustByte k t0 (41 : Int32)) (dt_X7_mustByte t0 (41 : Int32)) (fun r_71 u_72 => (dt_n (dt_r _) (dt_r _))))) n90 m_n90 ((va_up u_45.1 14 ((u_45.1 14) + 1)), u_45.2.1, u_45.2.2.1, u_45.2.2.2) x1 (u_2.1 8) r_44 (u_45.1 6) 0))))) (dt_r _)))) (dt_b2 (F := fun k => wp_X7_fails k u_5 (3 : Int32) (u_5.1 6)) (dt_X7_fails u_5 (3 : Int32) (u_5.1 6)) (fun r_74 u_75 => (dt_c (dt_r _)))))))) (dt_r _))))
set_option maxHeartbeats 4000000 in
theorem dt_X7_goesOne_4 (s0 : Md) (x1 : Int32) : dt (fun P : (Int32 × Md) → Prop => wp_X7_goesOne_4 (fun a0 a1 => P (a0, a1)) s0 x1) (fun P : (Int32 × Md) → Prop => wp_X7_goesOne_4 (fun a0 a1 => P (a0, a1)) s0 x1) := by
  unfold wp_X7_goesOne_4
  exact (dt_b2 (F := fun k => wp_X7_isWord k s0 5) (dt_X7_isWord s0 5) (fun r_1 u_2 => (dt_p (dt_b2 (F := fun k => wp_X7_isWord k u_2 7) (dt_X7_isWord u_2 7) (fun r_4 u_5 => (dt_p (dt_b2 (F := fun k => wp_X7_isWord k u_5 8) (dt_X7_isWord u_5 8) (fun r_7 u_8 => (dt_p (dt_b2 (F := fun k => wp_X7_isWord k u_8 9) (dt_X7_isWord u_8 9) (fun r_10 u_11 => (dt_p (dt_b2 (F := fun k => wp_X7_isWord k u_11 10) (dt_X7_isWord u_11 10) (fun r_13 u_14 => (dt_p (dt_b2 (F := fun k => wp_X7_isWord k u_14 6) (dt_X7_isWord u_14 6) (fun r_16 u_17 => (dt_p (dt_b2 (F := fun k => wp_X7_isWord k u_17 11) (dt_X7_isWord u_17 11) (fun r_19 u_20 => (dt_p (dt_b2 (F := fun k => wp_X7_fails k u_20 (1 : Int32) (u_20.1 6)) (dt_X7_fails u_20 (1 : Int32) (u_20.1 6)) (fun r_22 u_23 => (dt_c (dt_r _)))) (dt_b2 (F := fun k => wp_X7_goesTimes_4 k u_20 x1) (dt_X7_goesTimes_4 u_20 x1) (fun r_25 u_26 => (dt_c (dt_r _))))))) (dt_b2 (F := fun k => wp_X7_goesLose k u_17 x1) (dt_X7_goesLose u_17 x1) (fun r_28 u_29 => (dt_c (dt_r _))))))) (dt_b2 (F := fun k => wp_X7_goesSettle k u_14 x1) (dt_X7_goesSettle u_14 x1) (fun r_31 u_32 => (dt_c (dt_r _))))))) (dt_b2 (F := fun k => wp_X7_goesWait k u_11 x1) (dt_X7_goesWait u_11 x1) (fun r_34 u_35 => (dt_c (dt_r _))))))) (dt_b2 (F := fun k => wp_X7_goesHome k u_8 x1) (dt_X7_goesHome u_8 x1) (fun r_37 u_38 => (dt_c (dt_r _))))))) (dt_b2 (F := fun k => wp_X7_goesScroll k u_5 x1) (dt_X7_goesScroll u_5 x1) (fun r_40 u_41 => (dt_c (dt_r _))))))) (dt_b2 (F := fun k => wp_X7_goesRow k u_2 x1) (dt_X7_goesRow u_2 x1) (fun r_43 u_44 => (dt_c (dt_r _)))))))
set_option maxHeartbeats 4000000 in
theorem dl_X7_goesAll_4_L10  {O : Type} {G_post G2_post : Int32 → Md → (O → Prop) → Prop} {G_e27 G2_e27 : Md → Int32 → (O → Prop) → Prop} {G_e29 G2_e29 : Md → Int32 → (O → Prop) → Prop} (h_post : ∀ v0 v1, dt (G_post v0 v1) (G2_post v0 v1)) (h_e27 : ∀ v0 v1, dt (G_e27 v0 v1) (G2_e27 v0 v1)) (h_e29 : ∀ v0 v1, dt (G_e29 v0 v1) (G2_e29 v0 v1)) : ∀ (n m : Nat) (t0 : Md) (z1 : Int32), dt (fun P : O → Prop => wp_X7_goesAll_4_L10 (fun v0 v1 => G_post v0 v1 P) (fun v0 v1 => G_e27 v0 v1 P) (fun v0 v1 => G_e29 v0 v1 P) n t0 z1) (fun P : O → Prop => wp_X7_goesAll_4_L10 (fun v0 v1 => G2_post v0 v1 P) (fun v0 v1 => G2_e27 v0 v1 P) (fun v0 v1 => G2_e29 v0 v1 P) m t0 z1) := by
  intro n
  induction n with
  | zero => exact fun _ _ _ => dt_F
  | succ n10 ih =>
    intro m t0 z1
    have key : ∀ m9 : Nat, dt (fun P : O → Prop => wp_X7_goesAll_4_L10 (fun v0 v1 => G_post v0 v1 P) (fun v0 v1 => G_e27 v0 v1 P) (fun v0 v1 => G_e29 v0 v1 P) (n10 + 1) t0 z1) (fun P : O → Prop => wp_X7_goesAll_4_L10 (fun v0 v1 => G2_post v0 v1 P) (fun v0 v1 => G2_e27 v0 v1 P) (fun v0 v1 => G2_e29 v0 v1 P) (m9 + 1) t0 z1) := by
      intro m9
      unfold wp_X7_goesAll_4_L10
      exact (dt_b2 (F := fun k => wp_X7_takesByte k t0 (59 : Int32)) (dt_X7_takesByte t0 (59 : Int32)) (fun r_4 u_5 => (dt_p (h_e29 u_5 z1) (dt_b2 (F := fun k => wp_X7_goesOne_4 k u_5 z1) (dt_X7_goesOne_4 u_5 z1) (fun r_7 u_8 => (dt_n (ih m9 u_8 z1) (h_e27 u_8 z1)))))))
    cases m with
    | zero => exact dt_0 (key 0)
    | succ m9 => exact key m9
set_option maxHeartbeats 4000000 in
theorem dt_X7_goesAll_4 (s0 : Md) (x1 : Int32) : dt (fun P : (Int32 × Md) → Prop => wp_X7_goesAll_4 (fun a0 a1 => P (a0, a1)) s0 x1) (fun P : (Int32 × Md) → Prop => wp_X7_goesAll_4 (fun a0 a1 => P (a0, a1)) s0 x1) := by
  unfold wp_X7_goesAll_4
  exact (dt_b2 (F := fun k => wp_X7_goesOne_4 k s0 x1) (dt_X7_goesOne_4 s0 x1) (fun r_1 u_2 => (dt_n (dt_x (fun n10 m_n10 => (dl_X7_goesAll_4_L10  (fun v0 v1 => (dt_r _)) (fun t0 z1 => (dt_r _)) (fun t0 z1 => (dt_r _)) n10 m_n10 u_2 x1))) (dt_r _))))
set_option maxHeartbeats 4000000 in
theorem dt_X7_goesProgram (s0 : Md) (x1 : Int32) : dt (fun P : (Int32 × Md) → Prop => wp_X7_goesProgram (fun a0 a1 => P (a0, a1)) s0 x1) (fun P : (Int32 × Md) → Prop => wp_X7_goesProgram (fun a0 a1 => P (a0, a1)) s0 x1) := by
  unfold wp_X7_goesProgram
  exact (dt_b2 (F := fun k => wp_X7_goesAll_4 k ((va_up (va_up (va_up s0.1 6 0) 13 0) 14 0), s0.2.1, s0.2.2.1, s0.2.2.2) x1) (dt_X7_goesAll_4 ((va_up (va_up (va_up s0.1 6 0) 13 0) 14 0), s0.2.1, s0.2.2.1, s0.2.2.2) x1) (fun r_1 u_2 => (dt_n (dt_b2 (F := fun k => wp_X7_nextByte k u_2) (dt_X7_nextByte u_2) (fun r_4 u_5 => (dt_p (dt_r _) (dt_b2 (F := fun k => wp_X7_fails k u_5 (1 : Int32) (u_5.1 6)) (dt_X7_fails u_5 (1 : Int32) (u_5.1 6)) (fun r_7 u_8 => (dt_p (dt_r _) (dt_r _))))))) (dt_r _))))
set_option maxHeartbeats 4000000 in
theorem dt_X7_run (s0 : Md) : dt (fun P : (Int32 × Md) → Prop => wp_X7_run (fun a0 a1 => P (a0, a1)) s0) (fun P : (Int32 × Md) → Prop => wp_X7_run (fun a0 a1 => P (a0, a1)) s0) := by
  unfold wp_X7_run
  exact (dt_b1 (F := fun k => wp_X7_isBoard k s0) (dt_X7_isBoard s0) (fun r_1 => (dt_p (dt_b1 (F := fun k => wp_X7_isBoard k ((va_up s0.1 5 0), s0.2.1, s0.2.2.1, s0.2.2.2)) (dt_X7_isBoard ((va_up s0.1 5 0), s0.2.1, s0.2.2.1, s0.2.2.2)) (fun r_4 => (dt_n (dt_r _) (dt_r _)))) (dt_b2 (F := fun k => wp_X7_goesProgram k s0 (0 : Int32)) (dt_X7_goesProgram s0 (0 : Int32)) (fun r_7 u_8 => (dt_p (dt_b1 (F := fun k => wp_X7_isBoard k ((va_up u_8.1 5 0), u_8.2.1, u_8.2.2.1, u_8.2.2.2)) (dt_X7_isBoard ((va_up u_8.1 5 0), u_8.2.1, u_8.2.2.1, u_8.2.2.2)) (fun r_10 => (dt_n (dt_r _) (dt_r _)))) (dt_b1 (F := fun k => wp_X7_keepsAct k u_8) (dt_X7_keepsAct u_8) (fun u_14 => (dt_b2 (F := fun k => wp_X7_goesProgram k u_14 (1 : Int32)) (dt_X7_goesProgram u_14 (1 : Int32)) (fun r_15 u_16 => (dt_b1 (F := fun k => wp_X7_isBoard k ((va_up u_16.1 5 0), u_16.2.1, u_16.2.2.1, u_16.2.2.2)) (dt_X7_isBoard ((va_up u_16.1 5 0), u_16.2.1, u_16.2.2.1, u_16.2.2.2)) (fun r_17 => (dt_n (dt_p (dt_r _) (dt_r _)) (dt_r _))))))))))))))
set_option maxHeartbeats 4000000 in
theorem dl_X7_loudest_L31  {O : Type} {G_post G2_post : Int32 → Md → (O → Prop) → Prop} {G_e63 G2_e63 : Md → Int32 → Int32 → Int32 → Int32 → (O → Prop) → Prop} (h_post : ∀ v0 v1, dt (G_post v0 v1) (G2_post v0 v1)) (h_e63 : ∀ v0 v1 v2 v3 v4, dt (G_e63 v0 v1 v2 v3 v4) (G2_e63 v0 v1 v2 v3 v4)) : ∀ (n m : Nat) (t0 : Md) (z1 : Int32) (z2 : Int32) (z3 : Int32) (z4 : Int32), dt (fun P : O → Prop => wp_X7_loudest_L31 (fun v0 v1 => G_post v0 v1 P) (fun v0 v1 v2 v3 v4 => G_e63 v0 v1 v2 v3 v4 P) n t0 z1 z2 z3 z4) (fun P : O → Prop => wp_X7_loudest_L31 (fun v0 v1 => G2_post v0 v1 P) (fun v0 v1 v2 v3 v4 => G2_e63 v0 v1 v2 v3 v4 P) m t0 z1 z2 z3 z4) := by
  intro n
  induction n with
  | zero => exact fun _ _ _ _ _ _ => dt_F
  | succ n31 ih =>
    intro m t0 z1 z2 z3 z4
    have key : ∀ m9 : Nat, dt (fun P : O → Prop => wp_X7_loudest_L31 (fun v0 v1 => G_post v0 v1 P) (fun v0 v1 v2 v3 v4 => G_e63 v0 v1 v2 v3 v4 P) (n31 + 1) t0 z1 z2 z3 z4) (fun P : O → Prop => wp_X7_loudest_L31 (fun v0 v1 => G2_post v0 v1 P) (fun v0 v1 v2 v3 v4 => G2_e63 v0 v1 v2 v3 v4 P) (m9 + 1) t0 z1 z2 z3 z4) := by
      intro m9
      unfold wp_X7_loudest_L31
      exact (dt_b2 (F := fun k => wp_X7_ticks k t0) (dt_X7_ticks t0) (fun r_9 u_10 => (dt_p (h_e63 u_10 z1 z2 z3 z4) (dt_p (ih m9 u_10 z1 z4 (u_10.1 1) (z4 + 1)) (ih m9 u_10 z1 z2 z3 (z4 + 1))))))
    cases m with
    | zero => exact dt_0 (key 0)
    | succ m9 => exact key m9
set_option maxHeartbeats 4000000 in
theorem dt_X7_loudest (s0 : Md) (x1 : Int32) : dt (fun P : (Int32 × Md) → Prop => wp_X7_loudest (fun a0 a1 => P (a0, a1)) s0 x1) (fun P : (Int32 × Md) → Prop => wp_X7_loudest (fun a0 a1 => P (a0, a1)) s0 x1) := by
  unfold wp_X7_loudest
  exact (dt_b1 (F := fun k => wp_X7_isBoard k s0) (dt_X7_isBoard s0) (fun r_1 => (dt_p (dt_r _) (dt_b1 (F := fun k => wp_X7_in k (Int32.toInt64 x1) (0 : Int64) (1 : Int64)) (dt_X7_in (Int32.toInt64 x1) (0 : Int64) (1 : Int64)) (fun r_4 => (dt_n (dt_b1 (F := fun k => wp_X7_putsAside k s0) (dt_X7_putsAside s0) (fun u_8 => (dt_x (fun n31 m_n31 => (dl_X7_loudest_L31  (fun v0 v1 => (dt_r _)) (fun t0 z1 z2 z3 z4 => (dt_b1 (F := fun k => wp_X7_takesBack k t0) (dt_X7_takesBack t0) (fun u_14 => (dt_p (dt_r _) (dt_n (dt_r _) (dt_r _)))))) n31 m_n31 u_8 x1 (-2) 0 0))))) (dt_r _)))))))
set_option maxHeartbeats 4000000 in
theorem dl_X7_usual_L29 (s0 : Md) {O : Type} {G_post G2_post : Int32 → (O → Prop) → Prop} {G_e74 G2_e74 : Int32 → Int32 → Int32 → Int32 → Int32 → (O → Prop) → Prop} (h_post : ∀ v0, dt (G_post v0) (G2_post v0)) (h_e74 : ∀ v0 v1 v2 v3 v4, dt (G_e74 v0 v1 v2 v3 v4) (G2_e74 v0 v1 v2 v3 v4)) : ∀ (n m : Nat) (z1 : Int32) (z2 : Int32) (z3 : Int32) (z4 : Int32) (z5 : Int32), dt (fun P : O → Prop => wp_X7_usual_L29 s0 (fun v0 => G_post v0 P) (fun v0 v1 v2 v3 v4 => G_e74 v0 v1 v2 v3 v4 P) n z1 z2 z3 z4 z5) (fun P : O → Prop => wp_X7_usual_L29 s0 (fun v0 => G2_post v0 P) (fun v0 v1 v2 v3 v4 => G2_e74 v0 v1 v2 v3 v4 P) m z1 z2 z3 z4 z5) := by
  intro n
  induction n with
  | zero => exact fun _ _ _ _ _ _ => dt_F
  | succ n29 ih =>
    intro m z1 z2 z3 z4 z5
    have key : ∀ m9 : Nat, dt (fun P : O → Prop => wp_X7_usual_L29 s0 (fun v0 => G_post v0 P) (fun v0 v1 v2 v3 v4 => G_e74 v0 v1 v2 v3 v4 P) (n29 + 1) z1 z2 z3 z4 z5) (fun P : O → Prop => wp_X7_usual_L29 s0 (fun v0 => G2_post v0 P) (fun v0 v1 v2 v3 v4 => G2_e74 v0 v1 v2 v3 v4 P) (m9 + 1) z1 z2 z3 z4 z5) := by
      intro m9
      unfold wp_X7_usual_L29
      exact (dt_b1 (F := fun k => wp_X7_flapsOf k s0 z1) (dt_X7_flapsOf s0 z1) (fun r_7 => (dt_p (h_e74 z1 z2 z3 z4 z5) (dt_b1 (F := fun k => wp_X7_often k s0 z1 z5 (1 : Int32)) (dt_X7_often s0 z1 z5 (1 : Int32)) (fun r_10 => (dt_p (dt_b1 (F := fun k => wp_X7_often k s0 z1 z5 (1 : Int32)) (dt_X7_often s0 z1 z5 (1 : Int32)) (fun r_13 => (ih m9 z1 z2 z5 r_13 (z5 + 1)))) (ih m9 z1 z2 z3 z4 (z5 + 1))))))))
    cases m with
    | zero => exact dt_0 (key 0)
    | succ m9 => exact key m9
set_option maxHeartbeats 4000000 in
theorem dt_X7_usual (s0 : Md) (x1 : Int32) (x2 : Int32) : dt (fun P : Int32 → Prop => wp_X7_usual (fun a0 => P a0) s0 x1 x2) (fun P : Int32 → Prop => wp_X7_usual (fun a0 => P a0) s0 x1 x2) := by
  unfold wp_X7_usual
  exact (dt_b1 (F := fun k => wp_X7_isDrum k s0 x1) (dt_X7_isDrum s0 x1) (fun r_1 => (dt_p (dt_r _) (dt_b1 (F := fun k => wp_X7_in k (Int32.toInt64 x2) (0 : Int64) (1 : Int64)) (dt_X7_in (Int32.toInt64 x2) (0 : Int64) (1 : Int64)) (fun r_4 => (dt_n (dt_x (fun n29 m_n29 => (dl_X7_usual_L29 s0 (fun v0 => (dt_r _)) (fun z1 z2 z3 z4 z5 => (dt_p (dt_r _) (dt_n (dt_r _) (dt_r _)))) n29 m_n29 x1 x2 (-2) 0 0))) (dt_r _)))))))
set_option maxHeartbeats 4000000 in
theorem dt_X3_push (s0 : Pa) (s1 : Bd) : dt (fun P : Pa → Prop => wp_X3_push (fun a0 => P a0) s0 s1) (fun P : Pa → Prop => wp_X3_push (fun a0 => P a0) s0 s1) := by
  unfold wp_X3_push
  refine dt_c ?_
  cases s0.2 (Int32.toNatClampNeg (s0.1 1)) with
  | none => exact dt_b1 (F := fun k => wp_X0_copyAll k fr_B s1) (dt_X0_copyAll fr_B s1) (fun _ => dt_r _)
  | some S2 => exact dt_b1 (F := fun k => wp_X0_copyAll k S2 s1) (dt_X0_copyAll S2 s1) (fun _ => dt_r _)
set_option maxHeartbeats 4000000 in
theorem dt_X3_pop (s0 : Pa) (s1 : Bd) : dt (fun P : (Int32 × Pa × Bd) → Prop => wp_X3_pop (fun a0 a1 a2 => P (a0, a1, a2)) s0 s1) (fun P : (Int32 × Pa × Bd) → Prop => wp_X3_pop (fun a0 a1 a2 => P (a0, a1, a2)) s0 s1) := by
  unfold wp_X3_pop
  refine dt_n (dt_c ?_) (dt_r _)
  cases s0.2 (Int32.toNatClampNeg ((((s0.1 1) + 10) - 1) - (((s0.1 1) + 10) - 1) / 10 * 10)) with
  | none => exact dt_r _
  | some S3 => exact dt_b1 (F := fun k => wp_X0_copyAll k s1 S3) (dt_X0_copyAll s1 S3) (fun _ => dt_r _)
set_option maxHeartbeats 4000000 in
theorem dt_X6_row (s1 : Tp) (s2 : Bd) (s6 : Pa) (x1 : Int32) : dt (fun P : (Int32 × Tp × Bd × Pa) → Prop => wp_X6_row (fun a0 a1 a2 a3 => P (a0, a1, a2, a3)) s1 s2 s6 x1) (fun P : (Int32 × Tp × Bd × Pa) → Prop => wp_X6_row (fun a0 a1 a2 a3 => P (a0, a1, a2, a3)) s1 s2 s6 x1) := by
  unfold wp_X6_row
  exact (dt_b1 (F := fun k => wp_X6_whyNotRow k s1 s2 x1) (dt_X6_whyNotRow s1 s2 x1) (fun r_1 => (dt_n (dt_r _) (dt_b1 (F := fun k => wp_X3_push k s6 s2) (dt_X3_push s6 s2) (fun s_6 => (dt_b2 (F := fun k => wp_X0_wantSigns k s2 s1 x1 (0 : Int32) (s1.1 0)) (dt_X0_wantSigns s2 s1 x1 (0 : Int32) (s1.1 0)) (fun r_10 u_11 => (dt_r _))))))))
set_option maxHeartbeats 4000000 in
theorem dt_X6_scroll (s1 : Tp) (s2 : Bd) (s6 : Pa) : dt (fun P : (Int32 × Tp × Bd × Pa) → Prop => wp_X6_scroll (fun a0 a1 a2 a3 => P (a0, a1, a2, a3)) s1 s2 s6) (fun P : (Int32 × Tp × Bd × Pa) → Prop => wp_X6_scroll (fun a0 a1 a2 a3 => P (a0, a1, a2, a3)) s1 s2 s6) := by
  unfold wp_X6_scroll
  exact (dt_b1 (F := fun k => wp_X6_whyNotRow k s1 s2 ((s2.1 0) - 1)) (dt_X6_whyNotRow s1 s2 ((s2.1 0) - 1)) (fun r_1 => (dt_n (dt_r _) (dt_b1 (F := fun k => wp_X3_push k s6 s2) (dt_X3_push s6 s2) (fun s_6 => (dt_b2 (F := fun k => wp_X0_scrollUp k s2 s1 (0 : Int32) (s1.1 0)) (dt_X0_scrollUp s2 s1 (0 : Int32) (s1.1 0)) (fun r_10 u_11 => (dt_r _))))))))
set_option maxHeartbeats 4000000 in
theorem dt_X6_tick (s2 : Bd) (s4 : Mo) (s6 : Pa) (x1 : Int32) : dt (fun P : (Int32 × Bd × Mo × Pa) → Prop => wp_X6_tick (fun a0 a1 a2 a3 => P (a0, a1, a2, a3)) s2 s4 s6 x1) (fun P : (Int32 × Bd × Mo × Pa) → Prop => wp_X6_tick (fun a0 a1 a2 a3 => P (a0, a1, a2, a3)) s2 s4 s6 x1) := by
  unfold wp_X6_tick
  exact (dt_b1 (F := fun k => wp_X0_isThere k s2) (dt_X0_isThere s2) (fun r_1 => (dt_p (dt_r _) (dt_p (dt_r _) (dt_p (dt_b1 (F := fun k => wp_X3_push k s6 s2) (dt_X3_push s6 s2) (fun s_8 => (dt_b2 (F := fun k => wp_X2_turn k s4 s2 x1) (dt_X2_turn s4 s2 x1) (fun u_13a u_13b => (dt_r _))))) (dt_r _))))))
set_option maxHeartbeats 4000000 in
theorem dt_X6_settle (s2 : Bd) (s4 : Mo) (s6 : Pa) : dt (fun P : (Int32 × Bd × Mo × Pa) → Prop => wp_X6_settle (fun a0 a1 a2 a3 => P (a0, a1, a2, a3)) s2 s4 s6) (fun P : (Int32 × Bd × Mo × Pa) → Prop => wp_X6_settle (fun a0 a1 a2 a3 => P (a0, a1, a2, a3)) s2 s4 s6) := by
  unfold wp_X6_settle
  exact (dt_b1 (F := fun k => wp_X0_isThere k s2) (dt_X0_isThere s2) (fun r_1 => (dt_n (dt_b1 (F := fun k => wp_X2_choose k s4 s2) (dt_X2_choose s4 s2) (fun u_5 => (dt_n (dt_b1 (F := fun k => wp_X3_push k s6 s2) (dt_X3_push s6 s2) (fun s_9 => (dt_b2 (F := fun k => wp_X2_turn k u_5 s2 (9999 : Int32)) (dt_X2_turn u_5 s2 (9999 : Int32)) (fun u_14a u_14b => (dt_r _))))) (dt_r _)))) (dt_r _))))
set_option maxHeartbeats 4000000 in
theorem dt_X6_lose (s2 : Bd) (s6 : Pa) (x1 : Int32) (x2 : Int32) : dt (fun P : (Int32 × Bd × Pa) → Prop => wp_X6_lose (fun a0 a1 a2 => P (a0, a1, a2)) s2 s6 x1 x2) (fun P : (Int32 × Bd × Pa) → Prop => wp_X6_lose (fun a0 a1 a2 => P (a0, a1, a2)) s2 s6 x1 x2) := by
  unfold wp_X6_lose
  exact (dt_b1 (F := fun k => wp_X0_hasCell k s2 x1) (dt_X0_hasCell s2 x1) (fun r_1 => (dt_p (dt_r _) (dt_p (dt_r _) (dt_p (dt_c (dt_n (dt_b1 (F := fun k => wp_X3_push k s6 s2) (dt_X3_push s6 s2) (fun s_10 => (dt_b1 (F := fun k => wp_X0_setLost k s2 x1 x2) (dt_X0_setLost s2 x1 x2) (fun u_15 => (dt_r _))))) (dt_r _))) (dt_r _))))))
set_option maxHeartbeats 4000000 in
theorem dt_X6_wear (s2 : Bd) (s6 : Pa) (x1 : Int32) (x2 : Int32) : dt (fun P : (Int32 × Bd × Pa) → Prop => wp_X6_wear (fun a0 a1 a2 => P (a0, a1, a2)) s2 s6 x1 x2) (fun P : (Int32 × Bd × Pa) → Prop => wp_X6_wear (fun a0 a1 a2 => P (a0, a1, a2)) s2 s6 x1 x2) := by
  unfold wp_X6_wear
  exact (dt_b1 (F := fun k => wp_X0_hasFlap k s2 x1 x2) (dt_X0_hasFlap s2 x1 x2) (fun r_1 => (dt_p (dt_r _) (dt_n (dt_b1 (F := fun k => wp_X0_isWorn k s2 x1 x2) (dt_X0_isWorn s2 x1 x2) (fun r_5 => (dt_p (dt_b1 (F := fun k => wp_X3_push k s6 s2) (dt_X3_push s6 s2) (fun s_10 => (dt_b1 (F := fun k => wp_X0_wearFlap k s2 x1 x2) (dt_X0_wearFlap s2 x1 x2) (fun u_15 => (dt_b1 (F := fun k => wp_X0_wornCount k u_15 x1) (dt_X0_wornCount u_15 x1) (fun r_16 => (dt_r _))))))) (dt_r _)))) (dt_r _)))))
set_option maxHeartbeats 4000000 in
theorem dt_X6_mend (s2 : Bd) (s6 : Pa) (x1 : Int32) (x2 : Int32) : dt (fun P : (Int32 × Bd × Pa) → Prop => wp_X6_mend (fun a0 a1 a2 => P (a0, a1, a2)) s2 s6 x1 x2) (fun P : (Int32 × Bd × Pa) → Prop => wp_X6_mend (fun a0 a1 a2 => P (a0, a1, a2)) s2 s6 x1 x2) := by
  unfold wp_X6_mend
  exact (dt_b1 (F := fun k => wp_X0_hasFlap k s2 x1 x2) (dt_X0_hasFlap s2 x1 x2) (fun r_1 => (dt_n (dt_b1 (F := fun k => wp_X0_isWorn k s2 x1 x2) (dt_X0_isWorn s2 x1 x2) (fun r_4 => (dt_n (dt_b1 (F := fun k => wp_X3_push k s6 s2) (dt_X3_push s6 s2) (fun s_9 => (dt_b1 (F := fun k => wp_X0_mendFlap k s2 x1 x2) (dt_X0_mendFlap s2 x1 x2) (fun u_14 => (dt_b1 (F := fun k => wp_X0_wornCount k u_14 x1) (dt_X0_wornCount u_14 x1) (fun r_15 => (dt_r _))))))) (dt_r _)))) (dt_r _))))
set_option maxHeartbeats 4000000 in
theorem dt_X6_limit (s2 : Bd) (s6 : Pa) (x1 : Int32) : dt (fun P : (Int32 × Bd × Pa) → Prop => wp_X6_limit (fun a0 a1 a2 => P (a0, a1, a2)) s2 s6 x1) (fun P : (Int32 × Bd × Pa) → Prop => wp_X6_limit (fun a0 a1 a2 => P (a0, a1, a2)) s2 s6 x1) := by
  unfold wp_X6_limit
  exact (dt_b1 (F := fun k => wp_X0_isThere k s2) (dt_X0_isThere s2) (fun r_1 => (dt_p (dt_r _) (dt_p (dt_r _) (dt_p (dt_n (dt_b1 (F := fun k => wp_X3_push k s6 s2) (dt_X3_push s6 s2) (fun s_9 => (dt_r _))) (dt_r _)) (dt_r _))))))
set_option maxHeartbeats 4000000 in
theorem dt_X6_exchange (s2 : Bd) (s6 : Pa) (x1 : Int32) (x2 : Int32) (x3 : Int32) : dt (fun P : (Int32 × Bd × Pa) → Prop => wp_X6_exchange (fun a0 a1 a2 => P (a0, a1, a2)) s2 s6 x1 x2 x3) (fun P : (Int32 × Bd × Pa) → Prop => wp_X6_exchange (fun a0 a1 a2 => P (a0, a1, a2)) s2 s6 x1 x2 x3) := by
  unfold wp_X6_exchange
  exact (dt_b1 (F := fun k => wp_X0_isMovable k s2 x1 x2) (dt_X0_isMovable s2 x1 x2) (fun r_1 => (dt_p (dt_r _) (dt_b1 (F := fun k => wp_X0_isMovable k s2 x1 x3) (dt_X0_isMovable s2 x1 x3) (fun r_4 => (dt_p (dt_r _) (dt_n (dt_b1 (F := fun k => wp_X3_push k s6 s2) (dt_X3_push s6 s2) (fun s_10 => (dt_b1 (F := fun k => wp_X0_swapSigns k s2 x1 x2 x3) (dt_X0_swapSigns s2 x1 x2 x3) (fun u_15 => (dt_b1 (F := fun k => wp_X0_emptyLog k u_15) (dt_X0_emptyLog u_15) (fun b_18 => (dt_r _))))))) (dt_r _))))))))
set_option maxHeartbeats 4000000 in
theorem dt_X6_run (s1 : Tp) (s2 : Bd) (s4 : Mo) (s5 : Pg) (s6 : Pa) : dt (fun P : (Int32 × Tp × Bd × Mo × Pg × Pa) → Prop => wp_X6_run (fun a0 a1 a2 a3 a4 a5 => P (a0, a1, a2, a3, a4, a5)) s1 s2 s4 s5 s6) (fun P : (Int32 × Tp × Bd × Mo × Pg × Pa) → Prop => wp_X6_run (fun a0 a1 a2 a3 a4 a5 => P (a0, a1, a2, a3, a4, a5)) s1 s2 s4 s5 s6) := by
  unfold wp_X6_run
  exact (dt_b3 (F := fun k => wp_X6_whyNotProgram k s1 s2 s5) (dt_X6_whyNotProgram s1 s2 s5) (fun r_1 u_2a u_2b => (dt_n (dt_r _) (dt_b1 (F := fun k => wp_X3_push k s6 s2) (dt_X3_push s6 s2) (fun s_6 => (dt_b4 (F := fun k => wp_X6_doProgram k u_2a s2 s4 u_2b) (dt_X6_doProgram u_2a s2 s4 u_2b) (fun r_10 u_11a u_11b u_11c => (dt_r _))))))))
set_option maxHeartbeats 4000000 in
theorem dt_X6_undo (s2 : Bd) (s6 : Pa) : dt (fun P : (Int32 × Bd × Pa) → Prop => wp_X6_undo (fun a0 a1 a2 => P (a0, a1, a2)) s2 s6) (fun P : (Int32 × Bd × Pa) → Prop => wp_X6_undo (fun a0 a1 a2 => P (a0, a1, a2)) s2 s6) := by
  unfold wp_X6_undo
  exact (dt_b3 (F := fun k => wp_X3_pop k s6 s2) (dt_X3_pop s6 s2) (fun r_2 s_3 b_6 => (dt_p (dt_r _) (dt_r _))))

set_option maxHeartbeats 4000000 in
theorem dt_X6_keep (s2 : Bd) (z7 : Nat → Option Bd) (x1 : Int32) : dt (fun P : (Int32 × (Nat → Option Bd)) → Prop => wp_X6_keep (fun a0 a1 => P (a0, a1)) s2 z7 x1) (fun P : (Int32 × (Nat → Option Bd)) → Prop => wp_X6_keep (fun a0 a1 => P (a0, a1)) s2 z7 x1) := by
  unfold wp_X6_keep
  refine dt_b1 (F := fun k => wp_X6_isShelf k x1) (dt_X6_isShelf x1) (fun r_1 => dt_n (dt_c ?_) (dt_r _))
  cases z7 (Int32.toNatClampNeg x1) with
  | none => exact dt_b1 (F := fun k => wp_X0_copyAll k fr_B s2) (dt_X0_copyAll fr_B s2) (fun _ => dt_b1 (F := fun k => wp_X0_cells k s2) (dt_X0_cells s2) (fun _ => dt_r _))
  | some S5 => exact dt_b1 (F := fun k => wp_X0_copyAll k S5 s2) (dt_X0_copyAll S5 s2) (fun _ => dt_b1 (F := fun k => wp_X0_cells k s2) (dt_X0_cells s2) (fun _ => dt_r _))
set_option maxHeartbeats 4000000 in
theorem dt_X6_back (s2 : Bd) (s6 : Pa) (z7 : Nat → Option Bd) (x1 : Int32) : dt (fun P : (Int32 × Bd × Pa × (Nat → Option Bd)) → Prop => wp_X6_back (fun a0 a1 a2 a3 => P (a0, a1, a2, a3)) s2 s6 z7 x1) (fun P : (Int32 × Bd × Pa × (Nat → Option Bd)) → Prop => wp_X6_back (fun a0 a1 a2 a3 => P (a0, a1, a2, a3)) s2 s6 z7 x1) := by
  unfold wp_X6_back
  refine dt_b1 (F := fun k => wp_X6_isShelf k x1) (dt_X6_isShelf x1) (fun r_1 => dt_n (dt_c ?_) (dt_r _))
  cases z7 (Int32.toNatClampNeg x1) with
  | none => exact dt_r _
  | some S5 => exact dt_b1 (F := fun k => wp_X0_copyAll k s2 S5) (dt_X0_copyAll s2 S5) (fun S9 => dt_b1 (F := fun k => wp_X0_cells k S9) (dt_X0_cells S9) (fun _ => dt_r _))
set_option maxHeartbeats 4000000 in
theorem dt_X6_tell (s1 : Tp) (s2 : Bd) (s3 : Bd) (s6 : Pa) : dt (fun P : (Int32 × Tp × Bd × Bd × Pa) → Prop => wp_X6_tell (fun a0 a1 a2 a3 a4 => P (a0, a1, a2, a3, a4)) s1 s2 s3 s6) (fun P : (Int32 × Tp × Bd × Bd × Pa) → Prop => wp_X6_tell (fun a0 a1 a2 a3 a4 => P (a0, a1, a2, a3, a4)) s1 s2 s3 s6) := by
  unfold wp_X6_tell
  exact (dt_b2 (F := fun k => wp_X1_readInto k s3 s1) (dt_X1_readInto s3 s1) (fun u_2a u_2b => (dt_b1 (F := fun k => wp_X5_isSound k ((va_up u_2b.1 0 0), u_2b.2)) (dt_X5_isSound ((va_up u_2b.1 0 0), u_2b.2)) (fun r_3 => (dt_n (dt_b1 (F := fun k => wp_X0_copyAllButLog k s2 u_2a) (dt_X0_copyAllButLog s2 u_2a) (fun u_7 => (dt_b1 (F := fun k => wp_X0_emptyLog k u_7) (dt_X0_emptyLog u_7) (fun b_10 => (dt_r _))))) (dt_r _))))))
set_option maxHeartbeats 4000000 in
theorem dt_X6_shelvesUsed (z7 : Nat → Option Bd) : dt (fun P : Int32 → Prop => wp_X6_shelvesUsed (fun a0 => P a0) z7) (fun P : Int32 → Prop => wp_X6_shelvesUsed (fun a0 => P a0) z7) := by
  unfold wp_X6_shelvesUsed
  cases z7 (Int32.toNatClampNeg 0) with
  | none =>
    cases z7 (Int32.toNatClampNeg 1) with
    | none => exact dt_r _
    | some S => exact dt_r _
  | some S =>
    cases z7 (Int32.toNatClampNeg 1) with
    | none => exact dt_r _
    | some S => exact dt_r _
set_option maxHeartbeats 4000000 in
theorem dt_X6_count (s1 : Tp) (s2 : Bd) (s4 : Mo) (s6 : Pa) (z7 : Nat → Option Bd) (x1 : Int32) : dt (fun P : (Int32 × Mo × Pa) → Prop => wp_X6_count (fun a0 a1 a2 => P (a0, a1, a2)) s1 s2 s4 s6 z7 x1) (fun P : (Int32 × Mo × Pa) → Prop => wp_X6_count (fun a0 a1 a2 => P (a0, a1, a2)) s1 s2 s4 s6 z7 x1) := by
  unfold wp_X6_count
  exact (dt_p (dt_r _) (dt_p (dt_r _) (dt_p (dt_b1 (F := fun k => wp_X0_cells k s2) (dt_X0_cells s2) (fun r_4 => (dt_r _))) (dt_p (dt_r _) (dt_p (dt_r _) (dt_p (dt_r _) (dt_p (dt_r _) (dt_p (dt_b1 (F := fun k => wp_X6_shelvesUsed k z7) (dt_X6_shelvesUsed z7) (fun r_11 => (dt_r _))) (dt_p (dt_b1 (F := fun k => wp_X2_choose k s4 s2) (dt_X2_choose s4 s2) (fun u_14 => (dt_r _))) (dt_r _))))))))))

/-! What a method leaves as it was. -/
def xf {O : Type} (F : (O → Prop) → Prop) (I : O → Prop) : Prop := ∀ P, F P → ∃ o, P o ∧ I o
section XF
variable {O : Type} {F G : (O → Prop) → Prop} {I : O → Prop}
theorem xf_dt (h : dt F F) : xf F (fun _ => True) := fun P g => by
  obtain ⟨o, a, _⟩ := h P g
  exact ⟨o, a, trivial⟩
theorem xf_r {o : O} (h : I o) : xf (fun P : O → Prop => P o) I := fun P g => ⟨o, g, h⟩
theorem xf_F : xf (fun _ : O → Prop => False) I := fun P h => h.elim
theorem xf_c {c : Prop} (h : xf F I) : xf (fun P : O → Prop => c ∧ F P) I := fun P g => h P g.2
theorem xf_p {c : Prop} (h1 : xf F I) (h2 : xf G I) : xf (fun P : O → Prop => (c → F P) ∧ (¬ c → G P)) I := fun P g => by
  by_cases hc : c
  · exact h1 P (g.1 hc)
  · exact h2 P (g.2 hc)
theorem xf_n {c : Prop} (h1 : xf F I) (h2 : xf G I) : xf (fun P : O → Prop => (¬ c → F P) ∧ (c → G P)) I := fun P g => by
  by_cases hc : c
  · exact h2 P (g.2 hc)
  · exact h1 P (g.1 hc)
theorem xf_x {F : Nat → (O → Prop) → Prop} (h : ∀ n, xf (F n) I) : xf (fun P : O → Prop => ∃ n, F n P) I := fun P g => by
  obtain ⟨n, g⟩ := g
  exact h n P g
theorem xf_b1 {A0 : Type} {F : (A0 → Prop) → Prop} {G : A0 → (O → Prop) → Prop} {J : A0 → Prop} (h : xf (fun P : A0 → Prop => F (fun a0 => P a0)) J) (k : ∀ a0, J a0 → xf (G a0) I) : xf (fun P : O → Prop => F (fun a0 => G a0 P)) I := fun P g => by
  obtain ⟨x, p, i⟩ := h (fun x => G x P) g
  exact k x i P p
theorem xf_b2 {A0 A1 : Type} {F : (A0 → A1 → Prop) → Prop} {G : A0 → A1 → (O → Prop) → Prop} {J : A0 × A1 → Prop} (h : xf (fun P : A0 × A1 → Prop => F (fun a0 a1 => P (a0, a1))) J) (k : ∀ a0 a1, J (a0, a1) → xf (G a0 a1) I) : xf (fun P : O → Prop => F (fun a0 a1 => G a0 a1 P)) I := fun P g => by
  obtain ⟨x, p, i⟩ := h (fun x => G x.1 x.2 P) g
  exact k x.1 x.2 i P p
theorem xf_b3 {A0 A1 A2 : Type} {F : (A0 → A1 → A2 → Prop) → Prop} {G : A0 → A1 → A2 → (O → Prop) → Prop} {J : A0 × A1 × A2 → Prop} (h : xf (fun P : A0 × A1 × A2 → Prop => F (fun a0 a1 a2 => P (a0, a1, a2))) J) (k : ∀ a0 a1 a2, J (a0, a1, a2) → xf (G a0 a1 a2) I) : xf (fun P : O → Prop => F (fun a0 a1 a2 => G a0 a1 a2 P)) I := fun P g => by
  obtain ⟨x, p, i⟩ := h (fun x => G x.1 x.2.1 x.2.2 P) g
  exact k x.1 x.2.1 x.2.2 i P p
theorem xf_b4 {A0 A1 A2 A3 : Type} {F : (A0 → A1 → A2 → A3 → Prop) → Prop} {G : A0 → A1 → A2 → A3 → (O → Prop) → Prop} {J : A0 × A1 × A2 × A3 → Prop} (h : xf (fun P : A0 × A1 × A2 × A3 → Prop => F (fun a0 a1 a2 a3 => P (a0, a1, a2, a3))) J) (k : ∀ a0 a1 a2 a3, J (a0, a1, a2, a3) → xf (G a0 a1 a2 a3) I) : xf (fun P : O → Prop => F (fun a0 a1 a2 a3 => G a0 a1 a2 a3 P)) I := fun P g => by
  obtain ⟨x, p, i⟩ := h (fun x => G x.1 x.2.1 x.2.2.1 x.2.2.2 P) g
  exact k x.1 x.2.1 x.2.2.1 x.2.2.2 i P p
end XF

set_option maxHeartbeats 4000000 in
theorem fx_X7_sets (s0 : Md) (x1 : Int32) (x2 : Int32) (y3 : Int64) : xf (fun P : Md → Prop => wp_X7_sets (fun a0 => P a0) s0 x1 x2 y3) (fun o => o.2.2.2 2 = s0.2.2.2 2) := by
  unfold wp_X7_sets
  exact (xf_c (xf_r rfl))
set_option maxHeartbeats 4000000 in
theorem fx_X7_steps (s0 : Md) (x1 : Int32) : xf (fun P : Md → Prop => wp_X7_steps (fun a0 => P a0) s0 x1) (fun o => o.2.2.2 2 = s0.2.2.2 2) := by
  unfold wp_X7_steps
  exact (xf_b1 (F := fun k => wp_X7_of k s0 x1 (2 : Int32)) (xf_dt (dt_X7_of s0 x1 (2 : Int32))) (fun r_1 _ => (xf_b1 (F := fun k => wp_X7_flaps k s0 x1) (xf_dt (dt_X7_flaps s0 x1)) (fun r_3 _ => (xf_c (xf_b1 (F := fun k => wp_X7_sets k s0 x1 (2 : Int32) (Int32.toInt64 ((r_1 + 1) - (((r_1 + 1) / r_3) * r_3)))) (fx_X7_sets s0 x1 (2 : Int32) (Int32.toInt64 ((r_1 + 1) - (((r_1 + 1) / r_3) * r_3)))) (fun u_7 j_u_7 => have i_u_7 := j_u_7.trans rfl; (xf_b1 (F := fun k => wp_X7_of k u_7 x1 (5 : Int32)) (xf_dt (dt_X7_of u_7 x1 (5 : Int32))) (fun r_8 _ => (xf_b1 (F := fun k => wp_X7_sets k u_7 x1 (5 : Int32) (Int32.toInt64 (r_8 + 1))) (fx_X7_sets u_7 x1 (5 : Int32) (Int32.toInt64 (r_8 + 1))) (fun u_11 j_u_11 => have i_u_11 := j_u_11.trans i_u_7; (xf_b1 (F := fun k => wp_X7_of k (u_11.1, u_11.2.1, (va_up u_11.2.2.1 0 (vp_updL (u_11.2.2.1 0) (Int32.toNatClampNeg 6) (((u_11.2.2.1 0) (Int32.toNatClampNeg 6)) + 1))), u_11.2.2.2) x1 (4 : Int32)) (xf_dt (dt_X7_of (u_11.1, u_11.2.1, (va_up u_11.2.2.1 0 (vp_updL (u_11.2.2.1 0) (Int32.toNatClampNeg 6) (((u_11.2.2.1 0) (Int32.toNatClampNeg 6)) + 1))), u_11.2.2.2) x1 (4 : Int32))) (fun r_12 _ => (xf_p (xf_b1 (F := fun k => wp_X7_of k (u_11.1, u_11.2.1, (va_up u_11.2.2.1 0 (vp_updL (u_11.2.2.1 0) (Int32.toNatClampNeg 6) (((u_11.2.2.1 0) (Int32.toNatClampNeg 6)) + 1))), u_11.2.2.2) x1 (1 : Int32)) (xf_dt (dt_X7_of (u_11.1, u_11.2.1, (va_up u_11.2.2.1 0 (vp_updL (u_11.2.2.1 0) (Int32.toNatClampNeg 6) (((u_11.2.2.1 0) (Int32.toNatClampNeg 6)) + 1))), u_11.2.2.2) x1 (1 : Int32))) (fun r_15 _ => (xf_b1 (F := fun k => wp_X7_flaps k (u_11.1, u_11.2.1, (va_up u_11.2.2.1 0 (vp_updL (u_11.2.2.1 0) (Int32.toNatClampNeg 6) (((u_11.2.2.1 0) (Int32.toNatClampNeg 6)) + 1))), u_11.2.2.2) x1) (xf_dt (dt_X7_flaps (u_11.1, u_11.2.1, (va_up u_11.2.2.1 0 (vp_updL (u_11.2.2.1 0) (Int32.toNatClampNeg 6) (((u_11.2.2.1 0) (Int32.toNatClampNeg 6)) + 1))), u_11.2.2.2) x1)) (fun r_17 _ => (xf_c (xf_b1 (F := fun k => wp_X7_sets k (u_11.1, u_11.2.1, (va_up u_11.2.2.1 0 (vp_updL (u_11.2.2.1 0) (Int32.toNatClampNeg 6) (((u_11.2.2.1 0) (Int32.toNatClampNeg 6)) + 1))), u_11.2.2.2) x1 (1 : Int32) (Int32.toInt64 ((r_15 + 1) - (((r_15 + 1) / r_17) * r_17)))) (fx_X7_sets (u_11.1, u_11.2.1, (va_up u_11.2.2.1 0 (vp_updL (u_11.2.2.1 0) (Int32.toNatClampNeg 6) (((u_11.2.2.1 0) (Int32.toNatClampNeg 6)) + 1))), u_11.2.2.2) x1 (1 : Int32) (Int32.toInt64 ((r_15 + 1) - (((r_15 + 1) / r_17) * r_17)))) (fun u_21 j_u_21 => have i_u_21 := j_u_21.trans i_u_11; (xf_b1 (F := fun k => wp_X7_of k u_21 x1 (1 : Int32)) (xf_dt (dt_X7_of u_21 x1 (1 : Int32))) (fun r_22 _ => (xf_p (xf_b1 (F := fun k => wp_X7_of k u_21 x1 (6 : Int32)) (xf_dt (dt_X7_of u_21 x1 (6 : Int32))) (fun r_25 _ => (xf_b1 (F := fun k => wp_X7_sets k u_21 x1 (6 : Int32) (Int32.toInt64 (r_25 + ((r_1 + 1) - (((r_1 + 1) / r_3) * r_3))))) (fx_X7_sets u_21 x1 (6 : Int32) (Int32.toInt64 (r_25 + ((r_1 + 1) - (((r_1 + 1) / r_3) * r_3))))) (fun u_28 j_u_28 => have i_u_28 := j_u_28.trans i_u_21; (xf_b1 (F := fun k => wp_X7_sets k (u_28.1, u_28.2.1, (va_up u_28.2.2.1 0 (vp_updL (u_28.2.2.1 0) (Int32.toNatClampNeg 7) (((u_28.2.2.1 0) (Int32.toNatClampNeg 7)) + (Int32.toInt64 ((r_1 + 1) - (((r_1 + 1) / r_3) * r_3)))))), u_28.2.2.2) x1 (2 : Int32) (0 : Int64)) (fx_X7_sets (u_28.1, u_28.2.1, (va_up u_28.2.2.1 0 (vp_updL (u_28.2.2.1 0) (Int32.toNatClampNeg 7) (((u_28.2.2.1 0) (Int32.toNatClampNeg 7)) + (Int32.toInt64 ((r_1 + 1) - (((r_1 + 1) / r_3) * r_3)))))), u_28.2.2.2) x1 (2 : Int32) (0 : Int64)) (fun u_30 j_u_30 => have i_u_30 := j_u_30.trans i_u_28; (xf_r i_u_30))))))) (xf_r i_u_21))))))))))) (xf_b1 (F := fun k => wp_X7_of k (u_11.1, u_11.2.1, (va_up u_11.2.2.1 0 (vp_updL (u_11.2.2.1 0) (Int32.toNatClampNeg 6) (((u_11.2.2.1 0) (Int32.toNatClampNeg 6)) + 1))), u_11.2.2.2) x1 (4 : Int32)) (xf_dt (dt_X7_of (u_11.1, u_11.2.1, (va_up u_11.2.2.1 0 (vp_updL (u_11.2.2.1 0) (Int32.toNatClampNeg 6) (((u_11.2.2.1 0) (Int32.toNatClampNeg 6)) + 1))), u_11.2.2.2) x1 (4 : Int32))) (fun r_31 _ => (xf_b1 (F := fun k => wp_X7_sets k (u_11.1, u_11.2.1, (va_up u_11.2.2.1 0 (vp_updL (u_11.2.2.1 0) (Int32.toNatClampNeg 6) (((u_11.2.2.1 0) (Int32.toNatClampNeg 6)) + 1))), u_11.2.2.2) x1 (4 : Int32) (Int32.toInt64 (r_31 - 1))) (fx_X7_sets (u_11.1, u_11.2.1, (va_up u_11.2.2.1 0 (vp_updL (u_11.2.2.1 0) (Int32.toNatClampNeg 6) (((u_11.2.2.1 0) (Int32.toNatClampNeg 6)) + 1))), u_11.2.2.2) x1 (4 : Int32) (Int32.toInt64 (r_31 - 1))) (fun u_34 j_u_34 => have i_u_34 := j_u_34.trans i_u_11; (xf_r i_u_34)))))))))))))))))))
set_option maxHeartbeats 4000000 in
theorem fl_X7_findsTurning_L33  {O : Type} {I : O → Prop} {c0 : Nat → Int32}  {G_post : Md → (O → Prop) → Prop} {G_e91 : Md → Int64 → Int32 → Int32 → Int32 → (O → Prop) → Prop} (h_post : ∀ (v0 : Md), v0.2.2.2 2 = c0 → xf (G_post v0) I) (h_e91 : ∀ (v0 : Md) (v1 : Int64) (v2 : Int32) (v3 : Int32) (v4 : Int32), v0.2.2.2 2 = c0 → xf (G_e91 v0 v1 v2 v3 v4) I) : ∀ (n : Nat) (t0 : Md) (w1 : Int64) (z3 : Int32) (z4 : Int32) (z5 : Int32), t0.2.2.2 2 = c0 → xf (fun P : O → Prop => wp_X7_findsTurning_L33 (fun v0 => G_post v0 P) (fun v0 v1 v2 v3 v4 => G_e91 v0 v1 v2 v3 v4 P) n t0 w1 z3 z4 z5) I := by
  intro n
  induction n with
  | zero => exact fun _ _ _ _ _ _ => xf_F
  | succ n33 ih =>
    intro t0 w1 z3 z4 z5 i_t0
    unfold wp_X7_findsTurning_L33
    exact (xf_b1 (F := fun k => wp_X7_cells k t0) (xf_dt (dt_X7_cells t0)) (fun r_4 _ => (xf_p (h_e91 t0 w1 z3 z4 z5 i_t0) (xf_b1 (F := fun k => wp_X7_isIn k w1 z5) (xf_dt (dt_X7_isIn w1 z5)) (fun r_7 _ => (xf_n (ih t0 w1 z3 z4 (z5 + 1) i_t0) (xf_b1 (F := fun k => wp_X7_leftOf k t0 z5) (xf_dt (dt_X7_leftOf t0 z5)) (fun r_10 _ => (xf_p (ih t0 w1 z3 z4 (z5 + 1) i_t0) (xf_p (ih t0 w1 z3 z5 (z5 + 1) i_t0) (xf_b1 (F := fun k => wp_X7_leftOf k t0 z5) (xf_dt (dt_X7_leftOf t0 z5)) (fun r_14 _ => (xf_b1 (F := fun k => wp_X7_leftOf k t0 z4) (xf_dt (dt_X7_leftOf t0 z4)) (fun r_16 _ => (xf_p (ih t0 w1 z3 z4 (z5 + 1) i_t0) (ih t0 w1 z3 z5 (z5 + 1) i_t0))))))))))))))))
set_option maxHeartbeats 4000000 in
theorem fl_X7_findsTurning_L19  {O : Type} {I : O → Prop} {c0 : Nat → Int32}  {G_post : Md → (O → Prop) → Prop} {G_e174 : Md → Int64 → Int32 → (O → Prop) → Prop} (h_post : ∀ (v0 : Md), v0.2.2.2 2 = c0 → xf (G_post v0) I) (h_e174 : ∀ (v0 : Md) (v1 : Int64) (v2 : Int32), v0.2.2.2 2 = c0 → xf (G_e174 v0 v1 v2) I) : ∀ (n : Nat) (t0 : Md) (w1 : Int64) (z3 : Int32), t0.2.2.2 2 = c0 → xf (fun P : O → Prop => wp_X7_findsTurning_L19 (fun v0 => G_post v0 P) (fun v0 v1 v2 => G_e174 v0 v1 v2 P) n t0 w1 z3) I := by
  intro n
  induction n with
  | zero => exact fun _ _ _ _ => xf_F
  | succ n19 ih =>
    intro t0 w1 z3 i_t0
    unfold wp_X7_findsTurning_L19
    exact (xf_b1 (F := fun k => wp_X7_cells k t0) (xf_dt (dt_X7_cells t0)) (fun r_1 _ => (xf_p (h_e174 t0 w1 z3 i_t0) (xf_x (fun n33 => (fl_X7_findsTurning_L33  (fun v0 i_v0 => (h_post v0 i_v0)) (fun t0 w1 z3 z4 z5 i_t0 => (xf_n (xf_b1 (F := fun k => wp_X7_current k t0 z4) (xf_dt (dt_X7_current t0 z4)) (fun r_20 _ => (xf_p (xf_b1 (F := fun k => wp_X7_current k ((va_up t0.1 1 ((t0.1 1) + 1)), (t0.2.1 ||| ((1 : Int64) <<< ((Int32.toInt64 z4) &&& 63))), t0.2.2.1, t0.2.2.2) z4) (xf_dt (dt_X7_current ((va_up t0.1 1 ((t0.1 1) + 1)), (t0.2.1 ||| ((1 : Int64) <<< ((Int32.toInt64 z4) &&& 63))), t0.2.2.1, t0.2.2.2) z4)) (fun r_23 _ => (ih ((va_up (va_up t0.1 1 ((t0.1 1) + 1)) 2 ((t0.1 2) + r_23)), (t0.2.1 ||| ((1 : Int64) <<< ((Int32.toInt64 z4) &&& 63))), t0.2.2.1, t0.2.2.2) (w1 ||| ((1 : Int64) <<< ((Int32.toInt64 z4) &&& 63))) (z3 + 1) i_t0))) (ih t0 (w1 ||| ((1 : Int64) <<< ((Int32.toInt64 z4) &&& 63))) (z3 + 1) i_t0)))) (h_post t0 i_t0))) n33 t0 w1 z3 (-1) 0 i_t0))))))
set_option maxHeartbeats 4000000 in
theorem fx_X7_findsTurning (s0 : Md) : xf (fun P : Md → Prop => wp_X7_findsTurning (fun a0 => P a0) s0) (fun o => o.2.2.2 2 = s0.2.2.2 2) := by
  unfold wp_X7_findsTurning
  exact (xf_x (fun n19 => (fl_X7_findsTurning_L19  (fun v0 i_v0 => (xf_r i_v0)) (fun t0 w1 z3 i_t0 => (xf_r i_t0)) n19 ((va_up (va_up s0.1 1 0) 2 0), 0, s0.2.2.1, s0.2.2.2) 0 0 rfl)))
set_option maxHeartbeats 4000000 in
theorem fl_X7_ticks_L6  {O : Type} {I : O → Prop} {c0 : Nat → Int32}  {G_post : Int32 → Md → (O → Prop) → Prop} {G_e36 : Md → Int32 → (O → Prop) → Prop} (h_post : ∀ (v0 : Int32) (v1 : Md), v1.2.2.2 2 = c0 → xf (G_post v0 v1) I) (h_e36 : ∀ (v0 : Md) (v1 : Int32), v0.2.2.2 2 = c0 → xf (G_e36 v0 v1) I) : ∀ (n : Nat) (t0 : Md) (z1 : Int32), t0.2.2.2 2 = c0 → xf (fun P : O → Prop => wp_X7_ticks_L6 (fun v0 v1 => G_post v0 v1 P) (fun v0 v1 => G_e36 v0 v1 P) n t0 z1) I := by
  intro n
  induction n with
  | zero => exact fun _ _ _ => xf_F
  | succ n6 ih =>
    intro t0 z1 i_t0
    unfold wp_X7_ticks_L6
    exact (xf_b1 (F := fun k => wp_X7_cells k t0) (xf_dt (dt_X7_cells t0)) (fun r_3 _ => (xf_p (h_e36 t0 z1 i_t0) (xf_b1 (F := fun k => wp_X7_isIn k t0.2.1 z1) (xf_dt (dt_X7_isIn t0.2.1 z1)) (fun r_6 _ => (xf_p (ih t0 (z1 + 1) i_t0) (xf_b1 (F := fun k => wp_X7_steps k t0 z1) (fx_X7_steps t0 z1) (fun u_10 j_u_10 => have i_u_10 := j_u_10.trans i_t0; (ih u_10 (z1 + 1) i_u_10)))))))))
set_option maxHeartbeats 4000000 in
theorem fx_X7_ticks (s0 : Md) : xf (fun P : (Int32 × Md) → Prop => wp_X7_ticks (fun a0 a1 => P (a0, a1)) s0) (fun o => o.2.2.2.2 2 = s0.2.2.2 2) := by
  unfold wp_X7_ticks
  exact (xf_b1 (F := fun k => wp_X7_findsTurning k s0) (fx_X7_findsTurning s0) (fun u_2 j_u_2 => have i_u_2 := j_u_2.trans rfl; (xf_x (fun n6 => (fl_X7_ticks_L6  (fun v0 v1 i_v1 => (xf_r i_v1)) (fun t0 z1 i_t0 => (xf_n (xf_r i_t0) (xf_r i_t0))) n6 u_2 0 i_u_2)))))
set_option maxHeartbeats 4000000 in
theorem fx_X7_wantsFlap (s0 : Md) (x1 : Int32) (x2 : Int32) (x3 : Int32) : xf (fun P : Md → Prop => wp_X7_wantsFlap (fun a0 => P a0) s0 x1 x2 x3) (fun o => o.2.2.2 2 = s0.2.2.2 2) := by
  unfold wp_X7_wantsFlap
  exact (xf_b1 (F := fun k => wp_X7_sets k s0 x1 (3 : Int32) (Int32.toInt64 x2)) (fx_X7_sets s0 x1 (3 : Int32) (Int32.toInt64 x2)) (fun u_2 j_u_2 => have i_u_2 := j_u_2.trans rfl; (xf_p (xf_r i_u_2) (xf_b1 (F := fun k => wp_X7_of k u_2 x1 (2 : Int32)) (xf_dt (dt_X7_of u_2 x1 (2 : Int32))) (fun r_4 _ => (xf_p (xf_r i_u_2) (xf_b1 (F := fun k => wp_X7_of k u_2 x1 (0 : Int32)) (xf_dt (dt_X7_of u_2 x1 (0 : Int32))) (fun r_7 _ => (xf_b1 (F := fun k => wp_X7_of k u_2 x1 (2 : Int32)) (xf_dt (dt_X7_of u_2 x1 (2 : Int32))) (fun r_9 _ => (xf_c (xf_c (xf_r i_u_2)))))))))))))
set_option maxHeartbeats 4000000 in
theorem fl_X7_wantsSigns_L6  {O : Type} {I : O → Prop} {c0 : Nat → Int32}  {G_post : Int32 → Md → (O → Prop) → Prop} {G_e81 : Md → Int32 → Int32 → Int32 → Int32 → Int32 → Int32 → (O → Prop) → Prop} (h_post : ∀ (v0 : Int32) (v1 : Md), v1.2.2.2 2 = c0 → xf (G_post v0 v1) I) (h_e81 : ∀ (v0 : Md) (v1 : Int32) (v2 : Int32) (v3 : Int32) (v4 : Int32) (v5 : Int32) (v6 : Int32), v0.2.2.2 2 = c0 → xf (G_e81 v0 v1 v2 v3 v4 v5 v6) I) : ∀ (n : Nat) (t0 : Md) (z1 : Int32) (z2 : Int32) (z3 : Int32) (z4 : Int32) (z5 : Int32) (z6 : Int32), t0.2.2.2 2 = c0 → xf (fun P : O → Prop => wp_X7_wantsSigns_L6 (fun v0 v1 => G_post v0 v1 P) (fun v0 v1 v2 v3 v4 v5 v6 => G_e81 v0 v1 v2 v3 v4 v5 v6 P) n t0 z1 z2 z3 z4 z5 z6) I := by
  intro n
  induction n with
  | zero => exact fun _ _ _ _ _ _ _ _ => xf_F
  | succ n6 ih =>
    intro t0 z1 z2 z3 z4 z5 z6 i_t0
    unfold wp_X7_wantsSigns_L6
    exact (xf_b1 (F := fun k => wp_X7_wide k t0) (xf_dt (dt_X7_wide t0)) (fun r_1 _ => (xf_p (h_e81 t0 z1 z2 z3 z4 z5 z6 i_t0) (xf_b1 (F := fun k => wp_X7_wide k t0) (xf_dt (dt_X7_wide t0)) (fun r_4 _ => (xf_p (xf_b1 (F := fun k => wp_X7_wantsFlap k t0 ((r_4 * z1) + z6) (0 : Int32) z4) (fx_X7_wantsFlap t0 ((r_4 * z1) + z6) (0 : Int32) z4) (fun u_8 j_u_8 => have i_u_8 := j_u_8.trans i_t0; (ih u_8 z1 z2 z3 z4 z5 (z6 + 1) i_u_8))) (xf_c (xf_b1 (F := fun k => wp_X7_flapFor k t0 ((r_4 * z1) + z6) ((t0.2.2.2 2) (Int32.toNatClampNeg (z2 + z6)))) (xf_dt (dt_X7_flapFor t0 ((r_4 * z1) + z6) ((t0.2.2.2 2) (Int32.toNatClampNeg (z2 + z6))))) (fun r_10 _ => (xf_n (xf_b1 (F := fun k => wp_X7_wantsFlap k t0 ((r_4 * z1) + z6) r_10 z4) (fx_X7_wantsFlap t0 ((r_4 * z1) + z6) r_10 z4) (fun u_14 j_u_14 => have i_u_14 := j_u_14.trans i_t0; (ih u_14 z1 z2 z3 z4 z5 (z6 + 1) i_u_14))) (ih t0 z1 z2 z3 z4 (z5 + 1) (z6 + 1) i_t0)))))))))))
set_option maxHeartbeats 4000000 in
theorem fx_X7_wantsSigns (s0 : Md) (x1 : Int32) (x2 : Int32) (x3 : Int32) (x4 : Int32) : xf (fun P : (Int32 × Md) → Prop => wp_X7_wantsSigns (fun a0 a1 => P (a0, a1)) s0 x1 x2 x3 x4) (fun o => o.2.2.2.2 2 = s0.2.2.2 2) := by
  unfold wp_X7_wantsSigns
  exact (xf_x (fun n6 => (fl_X7_wantsSigns_L6  (fun v0 v1 i_v1 => (xf_r i_v1)) (fun t0 z1 z2 z3 z4 z5 z6 i_t0 => (xf_r i_t0)) n6 s0 x1 x2 x3 x4 0 0 rfl)))
set_option maxHeartbeats 4000000 in
theorem fl_X7_scrolls_L5  {O : Type} {I : O → Prop} {c0 : Nat → Int32}  {G_post : Int32 → Md → (O → Prop) → Prop} {G_e45 : Md → Int32 → Int32 → Int32 → Int32 → (O → Prop) → Prop} (h_post : ∀ (v0 : Int32) (v1 : Md), v1.2.2.2 2 = c0 → xf (G_post v0 v1) I) (h_e45 : ∀ (v0 : Md) (v1 : Int32) (v2 : Int32) (v3 : Int32) (v4 : Int32), v0.2.2.2 2 = c0 → xf (G_e45 v0 v1 v2 v3 v4) I) : ∀ (n : Nat) (t0 : Md) (z1 : Int32) (z2 : Int32) (z3 : Int32) (z4 : Int32), t0.2.2.2 2 = c0 → xf (fun P : O → Prop => wp_X7_scrolls_L5 (fun v0 v1 => G_post v0 v1 P) (fun v0 v1 v2 v3 v4 => G_e45 v0 v1 v2 v3 v4 P) n t0 z1 z2 z3 z4) I := by
  intro n
  induction n with
  | zero => exact fun _ _ _ _ _ _ => xf_F
  | succ n5 ih =>
    intro t0 z1 z2 z3 z4 i_t0
    unfold wp_X7_scrolls_L5
    exact (xf_b1 (F := fun k => wp_X7_cells k t0) (xf_dt (dt_X7_cells t0)) (fun r_1 _ => (xf_p (h_e45 t0 z1 z2 z3 z4 i_t0) (xf_b1 (F := fun k => wp_X7_of k t0 z4 (0 : Int32)) (xf_dt (dt_X7_of t0 z4 (0 : Int32))) (fun r_4 _ => (xf_b1 (F := fun k => wp_X7_of k t0 z4 (3 : Int32)) (xf_dt (dt_X7_of t0 z4 (3 : Int32))) (fun r_6 _ => (xf_b1 (F := fun k => wp_X7_signOf k t0 r_4 r_6) (xf_dt (dt_X7_signOf t0 r_4 r_6)) (fun r_8 _ => (xf_c (ih (t0.1, t0.2.1, t0.2.2.1, (va_up t0.2.2.2 1 (upd (t0.2.2.2 1) (Int32.toNatClampNeg z4) r_8))) z1 z2 z3 (z4 + 1) i_t0)))))))))))
set_option maxHeartbeats 4000000 in
theorem fl_X7_scrolls_L48  {O : Type} {I : O → Prop} {c0 : Nat → Int32}  {G_post : Int32 → Md → (O → Prop) → Prop} {G_e109 : Md → Int32 → Int32 → Int32 → Int32 → (O → Prop) → Prop} (h_post : ∀ (v0 : Int32) (v1 : Md), v1.2.2.2 2 = c0 → xf (G_post v0 v1) I) (h_e109 : ∀ (v0 : Md) (v1 : Int32) (v2 : Int32) (v3 : Int32) (v4 : Int32), v0.2.2.2 2 = c0 → xf (G_e109 v0 v1 v2 v3 v4) I) : ∀ (n : Nat) (t0 : Md) (z1 : Int32) (z2 : Int32) (z3 : Int32) (z4 : Int32), t0.2.2.2 2 = c0 → xf (fun P : O → Prop => wp_X7_scrolls_L48 (fun v0 v1 => G_post v0 v1 P) (fun v0 v1 v2 v3 v4 => G_e109 v0 v1 v2 v3 v4 P) n t0 z1 z2 z3 z4) I := by
  intro n
  induction n with
  | zero => exact fun _ _ _ _ _ _ => xf_F
  | succ n48 ih =>
    intro t0 z1 z2 z3 z4 i_t0
    unfold wp_X7_scrolls_L48
    exact (xf_b1 (F := fun k => wp_X7_wide k t0) (xf_dt (dt_X7_wide t0)) (fun r_11 _ => (xf_b1 (F := fun k => wp_X7_cells k t0) (xf_dt (dt_X7_cells t0)) (fun r_13 _ => (xf_p (h_e109 t0 z1 z2 z3 z4 i_t0) (xf_b1 (F := fun k => wp_X7_wide k t0) (xf_dt (dt_X7_wide t0)) (fun r_16 _ => (xf_c (xf_b1 (F := fun k => wp_X7_flapFor k t0 z4 ((t0.2.2.2 1) (Int32.toNatClampNeg (z4 + r_16)))) (xf_dt (dt_X7_flapFor t0 z4 ((t0.2.2.2 1) (Int32.toNatClampNeg (z4 + r_16))))) (fun r_19 _ => (xf_n (xf_b1 (F := fun k => wp_X7_wantsFlap k t0 z4 r_19 (1 : Int32)) (fx_X7_wantsFlap t0 z4 r_19 (1 : Int32)) (fun u_23 j_u_23 => have i_u_23 := j_u_23.trans i_t0; (ih u_23 z1 z2 z3 (z4 + 1) i_u_23))) (ih t0 z1 z2 (z3 + 1) (z4 + 1) i_t0))))))))))))
set_option maxHeartbeats 4000000 in
theorem fx_X7_scrolls (s0 : Md) (x1 : Int32) (x2 : Int32) : xf (fun P : (Int32 × Md) → Prop => wp_X7_scrolls (fun a0 a1 => P (a0, a1)) s0 x1 x2) (fun o => o.2.2.2.2 2 = s0.2.2.2 2) := by
  unfold wp_X7_scrolls
  exact (xf_x (fun n5 => (fl_X7_scrolls_L5  (fun v0 v1 i_v1 => (xf_r i_v1)) (fun t0 z1 z2 z3 z4 i_t0 => (xf_x (fun n48 => (fl_X7_scrolls_L48  (fun v0 v1 i_v1 => (xf_r i_v1)) (fun t0 z1 z2 z3 z4 i_t0 => (xf_b1 (F := fun k => wp_X7_rows k t0) (xf_dt (dt_X7_rows t0)) (fun r_24 _ => (xf_b2 (F := fun k => wp_X7_wantsSigns k t0 (r_24 - 1) z1 z2 (1 : Int32)) (fx_X7_wantsSigns t0 (r_24 - 1) z1 z2 (1 : Int32)) (fun r_26 u_27 j_u_27 => have i_u_27 := j_u_27.trans i_t0; (xf_r i_u_27)))))) n48 t0 z1 z2 z3 0 i_t0)))) n5 s0 x1 x2 0 0 rfl)))
set_option maxHeartbeats 4000000 in
theorem fl_X7_keepsAct_L53  {O : Type} {I : O → Prop} {c0 : Nat → Int32}  {G_post : Md → (O → Prop) → Prop} {G_e87 : Md → Int32 → (O → Prop) → Prop} (h_post : ∀ (v0 : Md), v0.2.2.2 2 = c0 → xf (G_post v0) I) (h_e87 : ∀ (v0 : Md) (v1 : Int32), v0.2.2.2 2 = c0 → xf (G_e87 v0 v1) I) : ∀ (n : Nat) (t0 : Md) (z1 : Int32), t0.2.2.2 2 = c0 → xf (fun P : O → Prop => wp_X7_keepsAct_L53 (fun v0 => G_post v0 P) (fun v0 v1 => G_e87 v0 v1 P) n t0 z1) I := by
  intro n
  induction n with
  | zero => exact fun _ _ _ => xf_F
  | succ n53 ih =>
    intro t0 z1 i_t0
    unfold wp_X7_keepsAct_L53
    exact (xf_p (h_e87 t0 z1 i_t0) (xf_c (xf_c (ih (t0.1, t0.2.1, (va_up t0.2.2.1 1 (vp_updL (t0.2.2.1 1) (Int32.toNatClampNeg ((6896 * (t0.1 0)) + z1)) ((t0.2.2.1 0) (Int32.toNatClampNeg z1)))), t0.2.2.2) (z1 + 1) i_t0))))
set_option maxHeartbeats 4000000 in
theorem fl_X7_keepsAct_L13  {O : Type} {I : O → Prop} {c0 : Nat → Int32}  {G_post : Md → (O → Prop) → Prop} {G_e41 : Md → Int32 → (O → Prop) → Prop} (h_post : ∀ (v0 : Md), v0.2.2.2 2 = c0 → xf (G_post v0) I) (h_e41 : ∀ (v0 : Md) (v1 : Int32), v0.2.2.2 2 = c0 → xf (G_e41 v0 v1) I) : ∀ (n : Nat) (t0 : Md) (z1 : Int32), t0.2.2.2 2 = c0 → xf (fun P : O → Prop => wp_X7_keepsAct_L13 (fun v0 => G_post v0 P) (fun v0 v1 => G_e41 v0 v1 P) n t0 z1) I := by
  intro n
  induction n with
  | zero => exact fun _ _ _ => xf_F
  | succ n13 ih =>
    intro t0 z1 i_t0
    unfold wp_X7_keepsAct_L13
    exact (xf_p (h_e41 t0 z1 i_t0) (xf_c (xf_c (ih (t0.1, t0.2.1, (va_up t0.2.2.1 1 (vp_updL (t0.2.2.1 1) (Int32.toNatClampNeg (z1 - 6896)) ((t0.2.2.1 1) (Int32.toNatClampNeg z1)))), t0.2.2.2) (z1 + 1) i_t0))))
set_option maxHeartbeats 4000000 in
theorem fx_X7_keepsAct (s0 : Md) : xf (fun P : Md → Prop => wp_X7_keepsAct (fun a0 => P a0) s0) (fun o => o.2.2.2 2 = s0.2.2.2 2) := by
  unfold wp_X7_keepsAct
  exact (xf_n (xf_x (fun n53 => (fl_X7_keepsAct_L53  (fun v0 i_v0 => (xf_r i_v0)) (fun t0 z1 i_t0 => (xf_r i_t0)) n53 s0 0 rfl))) (xf_x (fun n13 => (fl_X7_keepsAct_L13  (fun v0 i_v0 => (xf_r i_v0)) (fun t0 z1 i_t0 => (xf_x (fun n53 => (fl_X7_keepsAct_L53  (fun v0 i_v0 => (xf_r i_v0)) (fun t0 z1 i_t0 => (xf_r i_t0)) n53 ((va_up t0.1 0 ((t0.1 0) - 1)), t0.2.1, t0.2.2.1, t0.2.2.2) 0 i_t0)))) n13 s0 6896 rfl))))
set_option maxHeartbeats 4000000 in
theorem fx_X7_row (s0 : Md) (x1 : Int32) : xf (fun P : (Int32 × Md) → Prop => wp_X7_row (fun a0 a1 => P (a0, a1)) s0 x1) (fun o => o.2.2.2.2 2 = s0.2.2.2 2) := by
  unfold wp_X7_row
  exact (xf_b1 (F := fun k => wp_X7_isRow k ((va_up s0.1 5 0), s0.2.1, s0.2.2.1, s0.2.2.2) x1) (xf_dt (dt_X7_isRow ((va_up s0.1 5 0), s0.2.1, s0.2.2.1, s0.2.2.2) x1)) (fun r_1 _ => (xf_n (xf_b1 (F := fun k => wp_X7_isRowText k ((va_up s0.1 5 0), s0.2.1, s0.2.2.1, s0.2.2.2) (s0.1 5)) (xf_dt (dt_X7_isRowText ((va_up s0.1 5 0), s0.2.1, s0.2.2.1, s0.2.2.2) (s0.1 5))) (fun r_4 _ => (xf_n (xf_b1 (F := fun k => wp_X7_keepsAct k ((va_up s0.1 5 0), s0.2.1, s0.2.2.1, s0.2.2.2)) (fx_X7_keepsAct ((va_up s0.1 5 0), s0.2.1, s0.2.2.1, s0.2.2.2)) (fun u_8 j_u_8 => have i_u_8 := j_u_8.trans rfl; (xf_b2 (F := fun k => wp_X7_wantsSigns k u_8 x1 (0 : Int32) (s0.1 5) (1 : Int32)) (fx_X7_wantsSigns u_8 x1 (0 : Int32) (s0.1 5) (1 : Int32)) (fun r_9 u_10 j_u_10 => have i_u_10 := j_u_10.trans i_u_8; (xf_r i_u_10))))) (xf_r rfl)))) (xf_r rfl))))
set_option maxHeartbeats 4000000 in
theorem fx_X7_scroll (s0 : Md) : xf (fun P : (Int32 × Md) → Prop => wp_X7_scroll (fun a0 a1 => P (a0, a1)) s0) (fun o => o.2.2.2.2 2 = s0.2.2.2 2) := by
  unfold wp_X7_scroll
  exact (xf_b1 (F := fun k => wp_X7_isBoard k ((va_up s0.1 5 0), s0.2.1, s0.2.2.1, s0.2.2.2)) (xf_dt (dt_X7_isBoard ((va_up s0.1 5 0), s0.2.1, s0.2.2.1, s0.2.2.2))) (fun r_1 _ => (xf_n (xf_b1 (F := fun k => wp_X7_isRowText k ((va_up s0.1 5 0), s0.2.1, s0.2.2.1, s0.2.2.2) (s0.1 5)) (xf_dt (dt_X7_isRowText ((va_up s0.1 5 0), s0.2.1, s0.2.2.1, s0.2.2.2) (s0.1 5))) (fun r_4 _ => (xf_n (xf_b1 (F := fun k => wp_X7_keepsAct k ((va_up s0.1 5 0), s0.2.1, s0.2.2.1, s0.2.2.2)) (fx_X7_keepsAct ((va_up s0.1 5 0), s0.2.1, s0.2.2.1, s0.2.2.2)) (fun u_8 j_u_8 => have i_u_8 := j_u_8.trans rfl; (xf_b2 (F := fun k => wp_X7_scrolls k u_8 (0 : Int32) (s0.1 5)) (fx_X7_scrolls u_8 (0 : Int32) (s0.1 5)) (fun r_9 u_10 j_u_10 => have i_u_10 := j_u_10.trans i_u_8; (xf_r i_u_10))))) (xf_r rfl)))) (xf_r rfl))))
set_option maxHeartbeats 4000000 in
theorem fl_X7_tick_L29  {O : Type} {I : O → Prop} {c0 : Nat → Int32}  {G_post : Int32 → Md → (O → Prop) → Prop} {G_e47 : Md → Int32 → Int32 → Int32 → (O → Prop) → Prop} (h_post : ∀ (v0 : Int32) (v1 : Md), v1.2.2.2 2 = c0 → xf (G_post v0 v1) I) (h_e47 : ∀ (v0 : Md) (v1 : Int32) (v2 : Int32) (v3 : Int32), v0.2.2.2 2 = c0 → xf (G_e47 v0 v1 v2 v3) I) : ∀ (n : Nat) (t0 : Md) (z1 : Int32) (z2 : Int32) (z3 : Int32), t0.2.2.2 2 = c0 → xf (fun P : O → Prop => wp_X7_tick_L29 (fun v0 v1 => G_post v0 v1 P) (fun v0 v1 v2 v3 => G_e47 v0 v1 v2 v3 P) n t0 z1 z2 z3) I := by
  intro n
  induction n with
  | zero => exact fun _ _ _ _ _ => xf_F
  | succ n29 ih =>
    intro t0 z1 z2 z3 i_t0
    unfold wp_X7_tick_L29
    exact (xf_p (h_e47 t0 z1 z2 z3 i_t0) (xf_b2 (F := fun k => wp_X7_ticks k t0) (fx_X7_ticks t0) (fun r_10 u_11 j_u_11 => have i_u_11 := j_u_11.trans i_t0; (ih u_11 z1 (z2 + r_10) (z3 + 1) i_u_11))))
set_option maxHeartbeats 4000000 in
theorem fx_X7_tick (s0 : Md) (x1 : Int32) : xf (fun P : (Int32 × Md) → Prop => wp_X7_tick (fun a0 a1 => P (a0, a1)) s0 x1) (fun o => o.2.2.2.2 2 = s0.2.2.2 2) := by
  unfold wp_X7_tick
  exact (xf_b1 (F := fun k => wp_X7_isBoard k s0) (xf_dt (dt_X7_isBoard s0)) (fun r_1 _ => (xf_p (xf_r rfl) (xf_b1 (F := fun k => wp_X7_in k (Int32.toInt64 x1) (1 : Int64) (99 : Int64)) (xf_dt (dt_X7_in (Int32.toInt64 x1) (1 : Int64) (99 : Int64))) (fun r_4 _ => (xf_n (xf_b1 (F := fun k => wp_X7_keepsAct k s0) (fx_X7_keepsAct s0) (fun u_8 j_u_8 => have i_u_8 := j_u_8.trans rfl; (xf_x (fun n29 => (fl_X7_tick_L29  (fun v0 v1 i_v1 => (xf_r i_v1)) (fun t0 z1 z2 z3 i_t0 => (xf_r i_t0)) n29 u_8 x1 0 0 i_u_8))))) (xf_r rfl)))))))
set_option maxHeartbeats 4000000 in
theorem fl_X7_settles_L2  {O : Type} {I : O → Prop} {c0 : Nat → Int32}  {G_post : Int32 → Md → (O → Prop) → Prop} {G_e15 : Md → Int32 → (O → Prop) → Prop} (h_post : ∀ (v0 : Int32) (v1 : Md), v1.2.2.2 2 = c0 → xf (G_post v0 v1) I) (h_e15 : ∀ (v0 : Md) (v1 : Int32), v0.2.2.2 2 = c0 → xf (G_e15 v0 v1) I) : ∀ (n : Nat) (t0 : Md) (z1 : Int32), t0.2.2.2 2 = c0 → xf (fun P : O → Prop => wp_X7_settles_L2 (fun v0 v1 => G_post v0 v1 P) (fun v0 v1 => G_e15 v0 v1 P) n t0 z1) I := by
  intro n
  induction n with
  | zero => exact fun _ _ _ => xf_F
  | succ n2 ih =>
    intro t0 z1 i_t0
    unfold wp_X7_settles_L2
    exact (xf_b2 (F := fun k => wp_X7_ticks k t0) (fx_X7_ticks t0) (fun r_1 u_2 j_u_2 => have i_u_2 := j_u_2.trans i_t0; (xf_p (h_e15 u_2 z1 i_u_2) (ih u_2 (z1 + 1) i_u_2))))
set_option maxHeartbeats 4000000 in
theorem fx_X7_settles (s0 : Md) : xf (fun P : (Int32 × Md) → Prop => wp_X7_settles (fun a0 a1 => P (a0, a1)) s0) (fun o => o.2.2.2.2 2 = s0.2.2.2 2) := by
  unfold wp_X7_settles
  exact (xf_x (fun n2 => (fl_X7_settles_L2  (fun v0 v1 i_v1 => (xf_r i_v1)) (fun t0 z1 i_t0 => (xf_r i_t0)) n2 s0 0 rfl)))
set_option maxHeartbeats 4000000 in
theorem fx_X7_settle (s0 : Md) : xf (fun P : (Int32 × Md) → Prop => wp_X7_settle (fun a0 a1 => P (a0, a1)) s0) (fun o => o.2.2.2.2 2 = s0.2.2.2 2) := by
  unfold wp_X7_settle
  exact (xf_b1 (F := fun k => wp_X7_isBoard k s0) (xf_dt (dt_X7_isBoard s0)) (fun r_1 _ => (xf_n (xf_b1 (F := fun k => wp_X7_findsTurning k s0) (fx_X7_findsTurning s0) (fun u_5 j_u_5 => have i_u_5 := j_u_5.trans rfl; (xf_n (xf_b1 (F := fun k => wp_X7_keepsAct k u_5) (fx_X7_keepsAct u_5) (fun u_8 j_u_8 => have i_u_8 := j_u_8.trans i_u_5; (xf_b2 (F := fun k => wp_X7_settles k u_8) (fx_X7_settles u_8) (fun r_9 u_10 j_u_10 => have i_u_10 := j_u_10.trans i_u_8; (xf_r i_u_10))))) (xf_r i_u_5)))) (xf_r rfl))))
set_option maxHeartbeats 4000000 in
theorem fx_X7_lose (s0 : Md) (x1 : Int32) (x2 : Int32) : xf (fun P : (Int32 × Md) → Prop => wp_X7_lose (fun a0 a1 => P (a0, a1)) s0 x1 x2) (fun o => o.2.2.2.2 2 = s0.2.2.2 2) := by
  unfold wp_X7_lose
  exact (xf_b1 (F := fun k => wp_X7_isCell k s0 x1) (xf_dt (dt_X7_isCell s0 x1)) (fun r_1 _ => (xf_p (xf_r rfl) (xf_b1 (F := fun k => wp_X7_in k (Int32.toInt64 x2) (0 : Int64) (9 : Int64)) (xf_dt (dt_X7_in (Int32.toInt64 x2) (0 : Int64) (9 : Int64))) (fun r_4 _ => (xf_n (xf_b1 (F := fun k => wp_X7_of k s0 x1 (4 : Int32)) (xf_dt (dt_X7_of s0 x1 (4 : Int32))) (fun r_7 _ => (xf_n (xf_b1 (F := fun k => wp_X7_keepsAct k s0) (fx_X7_keepsAct s0) (fun u_11 j_u_11 => have i_u_11 := j_u_11.trans rfl; (xf_b1 (F := fun k => wp_X7_sets k u_11 x1 (4 : Int32) (Int32.toInt64 x2)) (fx_X7_sets u_11 x1 (4 : Int32) (Int32.toInt64 x2)) (fun u_13 j_u_13 => have i_u_13 := j_u_13.trans i_u_11; (xf_r i_u_13))))) (xf_r rfl)))) (xf_r rfl)))))))
set_option maxHeartbeats 4000000 in
theorem fx_X7_wears (s0 : Md) (x1 : Int32) (x2 : Int32) : xf (fun P : Md → Prop => wp_X7_wears (fun a0 => P a0) s0 x1 x2) (fun o => o.2.2.2 2 = s0.2.2.2 2) := by
  unfold wp_X7_wears
  exact (xf_b1 (F := fun k => wp_X7_wornOf k s0 x1) (xf_dt (dt_X7_wornOf s0 x1)) (fun r_1 _ => (xf_b1 (F := fun k => wp_X7_sets k s0 x1 (7 : Int32) (r_1 ||| ((1 : Int64) <<< ((Int32.toInt64 x2) &&& 63)))) (fx_X7_sets s0 x1 (7 : Int32) (r_1 ||| ((1 : Int64) <<< ((Int32.toInt64 x2) &&& 63)))) (fun u_4 j_u_4 => have i_u_4 := j_u_4.trans rfl; (xf_b1 (F := fun k => wp_X7_of k u_4 x1 (3 : Int32)) (xf_dt (dt_X7_of u_4 x1 (3 : Int32))) (fun r_5 _ => (xf_n (xf_r i_u_4) (xf_b1 (F := fun k => wp_X7_sets k u_4 x1 (3 : Int32) (0 : Int64)) (fx_X7_sets u_4 x1 (3 : Int32) (0 : Int64)) (fun u_9 j_u_9 => have i_u_9 := j_u_9.trans i_u_4; (xf_r i_u_9))))))))))
set_option maxHeartbeats 4000000 in
theorem fx_X7_wear (s0 : Md) (x1 : Int32) (x2 : Int32) : xf (fun P : (Int32 × Md) → Prop => wp_X7_wear (fun a0 a1 => P (a0, a1)) s0 x1 x2) (fun o => o.2.2.2.2 2 = s0.2.2.2 2) := by
  unfold wp_X7_wear
  exact (xf_b1 (F := fun k => wp_X7_isFlap k s0 x1 x2) (xf_dt (dt_X7_isFlap s0 x1 x2)) (fun r_1 _ => (xf_n (xf_b1 (F := fun k => wp_X7_wornOf k s0 x1) (xf_dt (dt_X7_wornOf s0 x1)) (fun r_4 _ => (xf_b1 (F := fun k => wp_X7_isIn k r_4 x2) (xf_dt (dt_X7_isIn r_4 x2)) (fun r_6 _ => (xf_p (xf_b1 (F := fun k => wp_X7_keepsAct k s0) (fx_X7_keepsAct s0) (fun u_10 j_u_10 => have i_u_10 := j_u_10.trans rfl; (xf_b1 (F := fun k => wp_X7_wears k u_10 x1 x2) (fx_X7_wears u_10 x1 x2) (fun u_12 j_u_12 => have i_u_12 := j_u_12.trans i_u_10; (xf_b1 (F := fun k => wp_X7_wornOf k u_12 x1) (xf_dt (dt_X7_wornOf u_12 x1)) (fun r_13 _ => (xf_b1 (F := fun k => wp_X7_bits k r_13) (xf_dt (dt_X7_bits r_13)) (fun r_15 _ => (xf_r i_u_12))))))))) (xf_r rfl)))))) (xf_r rfl))))
set_option maxHeartbeats 4000000 in
theorem fx_X7_mend (s0 : Md) (x1 : Int32) (x2 : Int32) : xf (fun P : (Int32 × Md) → Prop => wp_X7_mend (fun a0 a1 => P (a0, a1)) s0 x1 x2) (fun o => o.2.2.2.2 2 = s0.2.2.2 2) := by
  unfold wp_X7_mend
  exact (xf_b1 (F := fun k => wp_X7_isFlap k s0 x1 x2) (xf_dt (dt_X7_isFlap s0 x1 x2)) (fun r_1 _ => (xf_n (xf_b1 (F := fun k => wp_X7_wornOf k s0 x1) (xf_dt (dt_X7_wornOf s0 x1)) (fun r_4 _ => (xf_b1 (F := fun k => wp_X7_isIn k r_4 x2) (xf_dt (dt_X7_isIn r_4 x2)) (fun r_6 _ => (xf_n (xf_b1 (F := fun k => wp_X7_keepsAct k s0) (fx_X7_keepsAct s0) (fun u_10 j_u_10 => have i_u_10 := j_u_10.trans rfl; (xf_b1 (F := fun k => wp_X7_wornOf k u_10 x1) (xf_dt (dt_X7_wornOf u_10 x1)) (fun r_11 _ => (xf_b1 (F := fun k => wp_X7_sets k u_10 x1 (7 : Int32) (r_11 &&& (((1 : Int64) <<< ((Int32.toInt64 x2) &&& 63)) ^^^ (-1)))) (fx_X7_sets u_10 x1 (7 : Int32) (r_11 &&& (((1 : Int64) <<< ((Int32.toInt64 x2) &&& 63)) ^^^ (-1)))) (fun u_14 j_u_14 => have i_u_14 := j_u_14.trans i_u_10; (xf_b1 (F := fun k => wp_X7_wornOf k u_14 x1) (xf_dt (dt_X7_wornOf u_14 x1)) (fun r_15 _ => (xf_b1 (F := fun k => wp_X7_bits k r_15) (xf_dt (dt_X7_bits r_15)) (fun r_17 _ => (xf_r i_u_14))))))))))) (xf_r rfl)))))) (xf_r rfl))))
set_option maxHeartbeats 4000000 in
theorem fx_X7_limit (s0 : Md) (x1 : Int32) : xf (fun P : (Int32 × Md) → Prop => wp_X7_limit (fun a0 a1 => P (a0, a1)) s0 x1) (fun o => o.2.2.2.2 2 = s0.2.2.2 2) := by
  unfold wp_X7_limit
  exact (xf_b1 (F := fun k => wp_X7_isBoard k s0) (xf_dt (dt_X7_isBoard s0)) (fun r_1 _ => (xf_p (xf_r rfl) (xf_b1 (F := fun k => wp_X7_in k (Int32.toInt64 x1) (1 : Int64) (99 : Int64)) (xf_dt (dt_X7_in (Int32.toInt64 x1) (1 : Int64) (99 : Int64))) (fun r_4 _ => (xf_n (xf_n (xf_b1 (F := fun k => wp_X7_keepsAct k s0) (fx_X7_keepsAct s0) (fun u_9 j_u_9 => have i_u_9 := j_u_9.trans rfl; (xf_r i_u_9))) (xf_r rfl)) (xf_r rfl)))))))
set_option maxHeartbeats 4000000 in
theorem fl_X7_exchange_L109  {O : Type} {I : O → Prop} {c0 : Nat → Int32}  {G_post : Int32 → Md → (O → Prop) → Prop} {G_e131 : Md → Int32 → Int32 → Int32 → Int32 → Int64 → Int32 → (O → Prop) → Prop} (h_post : ∀ (v0 : Int32) (v1 : Md), v1.2.2.2 2 = c0 → xf (G_post v0 v1) I) (h_e131 : ∀ (v0 : Md) (v1 : Int32) (v2 : Int32) (v3 : Int32) (v4 : Int32) (v5 : Int64) (v6 : Int32), v0.2.2.2 2 = c0 → xf (G_e131 v0 v1 v2 v3 v4 v5 v6) I) : ∀ (n : Nat) (t0 : Md) (z1 : Int32) (z2 : Int32) (z3 : Int32) (z4 : Int32) (w5 : Int64) (z7 : Int32), t0.2.2.2 2 = c0 → xf (fun P : O → Prop => wp_X7_exchange_L109 (fun v0 v1 => G_post v0 v1 P) (fun v0 v1 v2 v3 v4 v5 v6 => G_e131 v0 v1 v2 v3 v4 v5 v6 P) n t0 z1 z2 z3 z4 w5 z7) I := by
  intro n
  induction n with
  | zero => exact fun _ _ _ _ _ _ _ _ => xf_F
  | succ n109 ih =>
    intro t0 z1 z2 z3 z4 w5 z7 i_t0
    unfold wp_X7_exchange_L109
    exact (xf_p (h_e131 t0 z1 z2 z3 z4 w5 z7 i_t0) (xf_c (ih (t0.1, t0.2.1, (va_up t0.2.2.1 0 (vp_updL (t0.2.2.1 0) (Int32.toNatClampNeg z7) 0)), t0.2.2.2) z1 z2 z3 z4 w5 (z7 + 1) i_t0)))
set_option maxHeartbeats 4000000 in
theorem fx_X7_exchange (s0 : Md) (x1 : Int32) (x2 : Int32) (x3 : Int32) : xf (fun P : (Int32 × Md) → Prop => wp_X7_exchange (fun a0 a1 => P (a0, a1)) s0 x1 x2 x3) (fun o => o.2.2.2.2 2 = s0.2.2.2 2) := by
  unfold wp_X7_exchange
  exact (xf_b1 (F := fun k => wp_X7_isDrum k s0 x1) (xf_dt (dt_X7_isDrum s0 x1)) (fun r_1 _ => (xf_p (xf_r rfl) (xf_b1 (F := fun k => wp_X7_flapsOf k s0 x1) (xf_dt (dt_X7_flapsOf s0 x1)) (fun r_4 _ => (xf_b1 (F := fun k => wp_X7_in k (Int32.toInt64 x2) (1 : Int64) (Int32.toInt64 (r_4 - 1))) (xf_dt (dt_X7_in (Int32.toInt64 x2) (1 : Int64) (Int32.toInt64 (r_4 - 1)))) (fun r_6 _ => (xf_p (xf_r rfl) (xf_b1 (F := fun k => wp_X7_flapsOf k s0 x1) (xf_dt (dt_X7_flapsOf s0 x1)) (fun r_9 _ => (xf_b1 (F := fun k => wp_X7_in k (Int32.toInt64 x3) (1 : Int64) (Int32.toInt64 (r_9 - 1))) (xf_dt (dt_X7_in (Int32.toInt64 x3) (1 : Int64) (Int32.toInt64 (r_9 - 1)))) (fun r_11 _ => (xf_p (xf_r rfl) (xf_n (xf_b1 (F := fun k => wp_X7_keepsAct k s0) (fx_X7_keepsAct s0) (fun u_16 j_u_16 => have i_u_16 := j_u_16.trans rfl; (xf_c (xf_c (xf_c (xf_c (xf_x (fun n109 => (fl_X7_exchange_L109  (fun v0 v1 i_v1 => (xf_r i_v1)) (fun t0 z1 z2 z3 z4 w5 z7 i_t0 => (xf_r i_t0)) n109 (u_16.1, u_16.2.1, (va_up u_16.2.2.1 0 (vp_updL (vp_updL (u_16.2.2.1 0) (Int32.toNatClampNeg (((8 + (42 * x1)) + 2) + x2)) ((u_16.2.2.1 0) (Int32.toNatClampNeg (((8 + (42 * x1)) + 2) + x3)))) (Int32.toNatClampNeg (((8 + (42 * x1)) + 2) + x3)) ((u_16.2.2.1 0) (Int32.toNatClampNeg (((8 + (42 * x1)) + 2) + x2))))), u_16.2.2.2) x1 x2 x3 ((8 + (42 * x1)) + 2) ((u_16.2.2.1 0) (Int32.toNatClampNeg (((8 + (42 * x1)) + 2) + x2))) 496 i_u_16))))))))) (xf_r rfl)))))))))))))))
set_option maxHeartbeats 4000000 in
theorem fl_X7_undo_L21  {O : Type} {I : O → Prop} {c0 : Nat → Int32}  {G_post : Int32 → Md → (O → Prop) → Prop} {G_e55 : Md → Int32 → (O → Prop) → Prop} (h_post : ∀ (v0 : Int32) (v1 : Md), v1.2.2.2 2 = c0 → xf (G_post v0 v1) I) (h_e55 : ∀ (v0 : Md) (v1 : Int32), v0.2.2.2 2 = c0 → xf (G_e55 v0 v1) I) : ∀ (n : Nat) (t0 : Md) (z1 : Int32), t0.2.2.2 2 = c0 → xf (fun P : O → Prop => wp_X7_undo_L21 (fun v0 v1 => G_post v0 v1 P) (fun v0 v1 => G_e55 v0 v1 P) n t0 z1) I := by
  intro n
  induction n with
  | zero => exact fun _ _ _ => xf_F
  | succ n21 ih =>
    intro t0 z1 i_t0
    unfold wp_X7_undo_L21
    exact (xf_p (h_e55 t0 z1 i_t0) (xf_c (xf_c (ih (t0.1, t0.2.1, (va_up t0.2.2.1 0 (vp_updL (t0.2.2.1 0) (Int32.toNatClampNeg z1) ((t0.2.2.1 1) (Int32.toNatClampNeg ((6896 * (t0.1 0)) + z1))))), t0.2.2.2) (z1 + 1) i_t0))))
set_option maxHeartbeats 4000000 in
theorem fx_X7_undo (s0 : Md) : xf (fun P : (Int32 × Md) → Prop => wp_X7_undo (fun a0 a1 => P (a0, a1)) s0) (fun o => o.2.2.2.2 2 = s0.2.2.2 2) := by
  unfold wp_X7_undo
  exact (xf_n (xf_x (fun n21 => (fl_X7_undo_L21  (fun v0 v1 i_v1 => (xf_r i_v1)) (fun t0 z1 i_t0 => (xf_r i_t0)) n21 ((va_up s0.1 0 ((s0.1 0) - 1)), s0.2.1, s0.2.2.1, s0.2.2.2) 0 rfl))) (xf_r rfl))
set_option maxHeartbeats 4000000 in
theorem fl_X7_keep_L14  {O : Type} {I : O → Prop} {c0 : Nat → Int32}  {G_post : Int32 → Md → (O → Prop) → Prop} {G_e45 : Md → Int32 → Int32 → (O → Prop) → Prop} (h_post : ∀ (v0 : Int32) (v1 : Md), v1.2.2.2 2 = c0 → xf (G_post v0 v1) I) (h_e45 : ∀ (v0 : Md) (v1 : Int32) (v2 : Int32), v0.2.2.2 2 = c0 → xf (G_e45 v0 v1 v2) I) : ∀ (n : Nat) (t0 : Md) (z1 : Int32) (z2 : Int32), t0.2.2.2 2 = c0 → xf (fun P : O → Prop => wp_X7_keep_L14 (fun v0 v1 => G_post v0 v1 P) (fun v0 v1 v2 => G_e45 v0 v1 v2 P) n t0 z1 z2) I := by
  intro n
  induction n with
  | zero => exact fun _ _ _ _ => xf_F
  | succ n14 ih =>
    intro t0 z1 z2 i_t0
    unfold wp_X7_keep_L14
    exact (xf_p (h_e45 t0 z1 z2 i_t0) (xf_c (xf_c (ih (t0.1, t0.2.1, (va_up t0.2.2.1 2 (vp_updL (t0.2.2.1 2) (Int32.toNatClampNeg ((6896 * z1) + z2)) ((t0.2.2.1 0) (Int32.toNatClampNeg z2)))), t0.2.2.2) z1 (z2 + 1) i_t0))))
set_option maxHeartbeats 4000000 in
theorem fx_X7_keep (s0 : Md) (x1 : Int32) : xf (fun P : (Int32 × Md) → Prop => wp_X7_keep (fun a0 a1 => P (a0, a1)) s0 x1) (fun o => o.2.2.2.2 2 = s0.2.2.2 2) := by
  unfold wp_X7_keep
  exact (xf_b1 (F := fun k => wp_X7_in k (Int32.toInt64 x1) (0 : Int64) (1 : Int64)) (xf_dt (dt_X7_in (Int32.toInt64 x1) (0 : Int64) (1 : Int64))) (fun r_1 _ => (xf_n (xf_x (fun n14 => (fl_X7_keep_L14  (fun v0 v1 i_v1 => (xf_r i_v1)) (fun t0 z1 z2 i_t0 => (xf_c (xf_b1 (F := fun k => wp_X7_cells k (t0.1, t0.2.1, t0.2.2.1, (va_up t0.2.2.2 0 (upd (t0.2.2.2 0) (Int32.toNatClampNeg z1) (vp_nar .boolean 1))))) (xf_dt (dt_X7_cells (t0.1, t0.2.1, t0.2.2.1, (va_up t0.2.2.2 0 (upd (t0.2.2.2 0) (Int32.toNatClampNeg z1) (vp_nar .boolean 1)))))) (fun r_8 _ => (xf_r i_t0))))) n14 s0 x1 0 rfl))) (xf_r rfl))))
set_option maxHeartbeats 4000000 in
theorem fl_X7_back_L26  {O : Type} {I : O → Prop} {c0 : Nat → Int32}  {G_post : Int32 → Md → (O → Prop) → Prop} {G_e57 : Md → Int32 → Int32 → (O → Prop) → Prop} (h_post : ∀ (v0 : Int32) (v1 : Md), v1.2.2.2 2 = c0 → xf (G_post v0 v1) I) (h_e57 : ∀ (v0 : Md) (v1 : Int32) (v2 : Int32), v0.2.2.2 2 = c0 → xf (G_e57 v0 v1 v2) I) : ∀ (n : Nat) (t0 : Md) (z1 : Int32) (z2 : Int32), t0.2.2.2 2 = c0 → xf (fun P : O → Prop => wp_X7_back_L26 (fun v0 v1 => G_post v0 v1 P) (fun v0 v1 v2 => G_e57 v0 v1 v2 P) n t0 z1 z2) I := by
  intro n
  induction n with
  | zero => exact fun _ _ _ _ => xf_F
  | succ n26 ih =>
    intro t0 z1 z2 i_t0
    unfold wp_X7_back_L26
    exact (xf_p (h_e57 t0 z1 z2 i_t0) (xf_c (xf_c (ih (t0.1, t0.2.1, (va_up t0.2.2.1 0 (vp_updL (t0.2.2.1 0) (Int32.toNatClampNeg z2) ((t0.2.2.1 2) (Int32.toNatClampNeg ((6896 * z1) + z2))))), t0.2.2.2) z1 (z2 + 1) i_t0))))
set_option maxHeartbeats 4000000 in
theorem fx_X7_back (s0 : Md) (x1 : Int32) : xf (fun P : (Int32 × Md) → Prop => wp_X7_back (fun a0 a1 => P (a0, a1)) s0 x1) (fun o => o.2.2.2.2 2 = s0.2.2.2 2) := by
  unfold wp_X7_back
  exact (xf_b1 (F := fun k => wp_X7_in k (Int32.toInt64 x1) (0 : Int64) (1 : Int64)) (xf_dt (dt_X7_in (Int32.toInt64 x1) (0 : Int64) (1 : Int64))) (fun r_1 _ => (xf_n (xf_c (xf_n (xf_x (fun n26 => (fl_X7_back_L26  (fun v0 v1 i_v1 => (xf_r i_v1)) (fun t0 z1 z2 i_t0 => (xf_b1 (F := fun k => wp_X7_cells k ((va_up t0.1 0 0), t0.2.1, t0.2.2.1, t0.2.2.2)) (xf_dt (dt_X7_cells ((va_up t0.1 0 0), t0.2.1, t0.2.2.1, t0.2.2.2))) (fun r_9 _ => (xf_r i_t0)))) n26 s0 x1 0 rfl))) (xf_r rfl))) (xf_r rfl))))
set_option maxHeartbeats 4000000 in
theorem fl_X7_which_L32  {O : Type} {I : O → Prop} {c0 : Nat → Int32}  {G_post : Int64 → Md → (O → Prop) → Prop} {G_e64 : Md → Int32 → Int64 → Int32 → (O → Prop) → Prop} (h_post : ∀ (v0 : Int64) (v1 : Md), v1.2.2.2 2 = c0 → xf (G_post v0 v1) I) (h_e64 : ∀ (v0 : Md) (v1 : Int32) (v2 : Int64) (v3 : Int32), v0.2.2.2 2 = c0 → xf (G_e64 v0 v1 v2 v3) I) : ∀ (n : Nat) (t0 : Md) (z1 : Int32) (w2 : Int64) (z4 : Int32), t0.2.2.2 2 = c0 → xf (fun P : O → Prop => wp_X7_which_L32 (fun v0 v1 => G_post v0 v1 P) (fun v0 v1 v2 v3 => G_e64 v0 v1 v2 v3 P) n t0 z1 w2 z4) I := by
  intro n
  induction n with
  | zero => exact fun _ _ _ _ _ => xf_F
  | succ n32 ih =>
    intro t0 z1 w2 z4 i_t0
    unfold wp_X7_which_L32
    exact (xf_b1 (F := fun k => wp_X7_cells k t0) (xf_dt (dt_X7_cells t0)) (fun r_9 _ => (xf_p (h_e64 t0 z1 w2 z4 i_t0) (xf_b1 (F := fun k => wp_X7_isSuch k t0 z4 z1) (xf_dt (dt_X7_isSuch t0 z4 z1)) (fun r_12 _ => (xf_p (ih t0 z1 w2 (z4 + 1) i_t0) (ih t0 z1 (w2 ||| ((1 : Int64) <<< ((Int32.toInt64 z4) &&& 63))) (z4 + 1) i_t0)))))))
set_option maxHeartbeats 4000000 in
theorem fx_X7_which (s0 : Md) (x1 : Int32) : xf (fun P : (Int64 × Md) → Prop => wp_X7_which (fun a0 a1 => P (a0, a1)) s0 x1) (fun o => o.2.2.2.2 2 = s0.2.2.2 2) := by
  unfold wp_X7_which
  exact (xf_b1 (F := fun k => wp_X7_isBoard k s0) (xf_dt (dt_X7_isBoard s0)) (fun r_1 _ => (xf_p (xf_r rfl) (xf_b1 (F := fun k => wp_X7_in k (Int32.toInt64 x1) (0 : Int64) (4 : Int64)) (xf_dt (dt_X7_in (Int32.toInt64 x1) (0 : Int64) (4 : Int64))) (fun r_4 _ => (xf_n (xf_b1 (F := fun k => wp_X7_findsTurning k s0) (fx_X7_findsTurning s0) (fun u_8 j_u_8 => have i_u_8 := j_u_8.trans rfl; (xf_x (fun n32 => (fl_X7_which_L32  (fun v0 v1 i_v1 => (xf_r i_v1)) (fun t0 z1 w2 z4 i_t0 => (xf_r i_t0)) n32 u_8 x1 0 0 i_u_8))))) (xf_r rfl)))))))
set_option maxHeartbeats 4000000 in
theorem fl_X7_putsAside_L2  {O : Type} {I : O → Prop} {c0 : Nat → Int32}  {G_post : Md → (O → Prop) → Prop} {G_e27 : Md → Int32 → (O → Prop) → Prop} (h_post : ∀ (v0 : Md), v0.2.2.2 2 = c0 → xf (G_post v0) I) (h_e27 : ∀ (v0 : Md) (v1 : Int32), v0.2.2.2 2 = c0 → xf (G_e27 v0 v1) I) : ∀ (n : Nat) (t0 : Md) (z1 : Int32), t0.2.2.2 2 = c0 → xf (fun P : O → Prop => wp_X7_putsAside_L2 (fun v0 => G_post v0 P) (fun v0 v1 => G_e27 v0 v1 P) n t0 z1) I := by
  intro n
  induction n with
  | zero => exact fun _ _ _ => xf_F
  | succ n2 ih =>
    intro t0 z1 i_t0
    unfold wp_X7_putsAside_L2
    exact (xf_p (h_e27 t0 z1 i_t0) (xf_c (xf_c (ih (t0.1, t0.2.1, (va_up t0.2.2.1 3 (vp_updL (t0.2.2.1 3) (Int32.toNatClampNeg z1) ((t0.2.2.1 0) (Int32.toNatClampNeg z1)))), t0.2.2.2) (z1 + 1) i_t0))))
set_option maxHeartbeats 4000000 in
theorem fx_X7_putsAside (s0 : Md) : xf (fun P : Md → Prop => wp_X7_putsAside (fun a0 => P a0) s0) (fun o => o.2.2.2 2 = s0.2.2.2 2) := by
  unfold wp_X7_putsAside
  exact (xf_x (fun n2 => (fl_X7_putsAside_L2  (fun v0 i_v0 => (xf_r i_v0)) (fun t0 z1 i_t0 => (xf_r i_t0)) n2 s0 0 rfl)))
set_option maxHeartbeats 4000000 in
theorem fl_X7_takesBack_L2  {O : Type} {I : O → Prop} {c0 : Nat → Int32}  {G_post : Md → (O → Prop) → Prop} {G_e27 : Md → Int32 → (O → Prop) → Prop} (h_post : ∀ (v0 : Md), v0.2.2.2 2 = c0 → xf (G_post v0) I) (h_e27 : ∀ (v0 : Md) (v1 : Int32), v0.2.2.2 2 = c0 → xf (G_e27 v0 v1) I) : ∀ (n : Nat) (t0 : Md) (z1 : Int32), t0.2.2.2 2 = c0 → xf (fun P : O → Prop => wp_X7_takesBack_L2 (fun v0 => G_post v0 P) (fun v0 v1 => G_e27 v0 v1 P) n t0 z1) I := by
  intro n
  induction n with
  | zero => exact fun _ _ _ => xf_F
  | succ n2 ih =>
    intro t0 z1 i_t0
    unfold wp_X7_takesBack_L2
    exact (xf_p (h_e27 t0 z1 i_t0) (xf_c (xf_c (ih (t0.1, t0.2.1, (va_up t0.2.2.1 0 (vp_updL (t0.2.2.1 0) (Int32.toNatClampNeg z1) ((t0.2.2.1 3) (Int32.toNatClampNeg z1)))), t0.2.2.2) (z1 + 1) i_t0))))
set_option maxHeartbeats 4000000 in
theorem fx_X7_takesBack (s0 : Md) : xf (fun P : Md → Prop => wp_X7_takesBack (fun a0 => P a0) s0) (fun o => o.2.2.2 2 = s0.2.2.2 2) := by
  unfold wp_X7_takesBack
  exact (xf_x (fun n2 => (fl_X7_takesBack_L2  (fun v0 i_v0 => (xf_r i_v0)) (fun t0 z1 i_t0 => (xf_r i_t0)) n2 s0 0 rfl)))
set_option maxHeartbeats 4000000 in
theorem fl_X7_when_L32  {O : Type} {I : O → Prop} {c0 : Nat → Int32}  {G_post : Int32 → Md → (O → Prop) → Prop} {G_e72 : Md → Int32 → Int32 → Int32 → Int32 → (O → Prop) → Prop} (h_post : ∀ (v0 : Int32) (v1 : Md), v1.2.2.2 2 = c0 → xf (G_post v0 v1) I) (h_e72 : ∀ (v0 : Md) (v1 : Int32) (v2 : Int32) (v3 : Int32) (v4 : Int32), v0.2.2.2 2 = c0 → xf (G_e72 v0 v1 v2 v3 v4) I) : ∀ (n : Nat) (t0 : Md) (z1 : Int32) (z2 : Int32) (z3 : Int32) (z4 : Int32), t0.2.2.2 2 = c0 → xf (fun P : O → Prop => wp_X7_when_L32 (fun v0 v1 => G_post v0 v1 P) (fun v0 v1 v2 v3 v4 => G_e72 v0 v1 v2 v3 v4 P) n t0 z1 z2 z3 z4) I := by
  intro n
  induction n with
  | zero => exact fun _ _ _ _ _ _ => xf_F
  | succ n32 ih =>
    intro t0 z1 z2 z3 z4 i_t0
    unfold wp_X7_when_L32
    exact (xf_b2 (F := fun k => wp_X7_ticks k t0) (fx_X7_ticks t0) (fun r_9 u_10 j_u_10 => have i_u_10 := j_u_10.trans i_t0; (xf_p (h_e72 u_10 z1 z2 z3 z4 i_u_10) (xf_p (ih u_10 z1 (z2 + 1) (z3 + ((u_10.1 1) * (u_10.1 1))) z4 i_u_10) (ih u_10 z1 (z2 + 1) (z3 + ((u_10.1 1) * (u_10.1 1))) (u_10.1 2) i_u_10)))))
set_option maxHeartbeats 4000000 in
theorem fx_X7_when (s0 : Md) (x1 : Int32) : xf (fun P : (Int32 × Md) → Prop => wp_X7_when (fun a0 a1 => P (a0, a1)) s0 x1) (fun o => o.2.2.2.2 2 = s0.2.2.2 2) := by
  unfold wp_X7_when
  exact (xf_b1 (F := fun k => wp_X7_isBoard k s0) (xf_dt (dt_X7_isBoard s0)) (fun r_1 _ => (xf_p (xf_r rfl) (xf_b1 (F := fun k => wp_X7_in k (Int32.toInt64 x1) (0 : Int64) (5 : Int64)) (xf_dt (dt_X7_in (Int32.toInt64 x1) (0 : Int64) (5 : Int64))) (fun r_4 _ => (xf_n (xf_b1 (F := fun k => wp_X7_putsAside k s0) (fx_X7_putsAside s0) (fun u_8 j_u_8 => have i_u_8 := j_u_8.trans rfl; (xf_x (fun n32 => (fl_X7_when_L32  (fun v0 v1 i_v1 => (xf_r i_v1)) (fun t0 z1 z2 z3 z4 i_t0 => (xf_b1 (F := fun k => wp_X7_others k t0) (xf_dt (dt_X7_others t0)) (fun r_13 _ => (xf_b1 (F := fun k => wp_X7_takesBack k t0) (fx_X7_takesBack t0) (fun u_16 j_u_16 => have i_u_16 := j_u_16.trans i_t0; (xf_p (xf_r i_u_16) (xf_p (xf_r i_u_16) (xf_p (xf_r i_u_16) (xf_p (xf_r i_u_16) (xf_p (xf_r i_u_16) (xf_r i_u_16))))))))))) n32 u_8 x1 0 0 0 i_u_8))))) (xf_r rfl)))))))
set_option maxHeartbeats 4000000 in
theorem fl_X7_rests_L16  {O : Type} {I : O → Prop} {c0 : Nat → Int32}  {G_post : Int32 → Md → (O → Prop) → Prop} {G_e44 : Md → Int32 → Int32 → (O → Prop) → Prop} (h_post : ∀ (v0 : Int32) (v1 : Md), v1.2.2.2 2 = c0 → xf (G_post v0 v1) I) (h_e44 : ∀ (v0 : Md) (v1 : Int32) (v2 : Int32), v0.2.2.2 2 = c0 → xf (G_e44 v0 v1 v2) I) : ∀ (n : Nat) (t0 : Md) (z1 : Int32) (z2 : Int32), t0.2.2.2 2 = c0 → xf (fun P : O → Prop => wp_X7_rests_L16 (fun v0 v1 => G_post v0 v1 P) (fun v0 v1 v2 => G_e44 v0 v1 v2 P) n t0 z1 z2) I := by
  intro n
  induction n with
  | zero => exact fun _ _ _ _ => xf_F
  | succ n16 ih =>
    intro t0 z1 z2 i_t0
    unfold wp_X7_rests_L16
    exact (xf_b1 (F := fun k => wp_X7_leftOf k t0 z1) (xf_dt (dt_X7_leftOf t0 z1)) (fun r_6 _ => (xf_p (h_e44 t0 z1 z2 i_t0) (xf_p (h_e44 t0 z1 z2 i_t0) (xf_b2 (F := fun k => wp_X7_ticks k t0) (fx_X7_ticks t0) (fun r_10 u_11 j_u_11 => have i_u_11 := j_u_11.trans i_t0; (xf_p (h_e44 u_11 z1 z2 i_u_11) (ih u_11 z1 (z2 + 1) i_u_11))))))))
set_option maxHeartbeats 4000000 in
theorem fx_X7_rests (s0 : Md) (x1 : Int32) : xf (fun P : (Int32 × Md) → Prop => wp_X7_rests (fun a0 a1 => P (a0, a1)) s0 x1) (fun o => o.2.2.2.2 2 = s0.2.2.2 2) := by
  unfold wp_X7_rests
  exact (xf_b1 (F := fun k => wp_X7_isCell k s0 x1) (xf_dt (dt_X7_isCell s0 x1)) (fun r_1 _ => (xf_n (xf_b1 (F := fun k => wp_X7_putsAside k s0) (fx_X7_putsAside s0) (fun u_5 j_u_5 => have i_u_5 := j_u_5.trans rfl; (xf_x (fun n16 => (fl_X7_rests_L16  (fun v0 v1 i_v1 => (xf_r i_v1)) (fun t0 z1 z2 i_t0 => (xf_b1 (F := fun k => wp_X7_leftOf k t0 z1) (xf_dt (dt_X7_leftOf t0 z1)) (fun r_13 _ => (xf_p (xf_b1 (F := fun k => wp_X7_takesBack k t0) (fx_X7_takesBack t0) (fun u_17 j_u_17 => have i_u_17 := j_u_17.trans i_t0; (xf_r i_u_17))) (xf_p (xf_b1 (F := fun k => wp_X7_takesBack k t0) (fx_X7_takesBack t0) (fun u_20 j_u_20 => have i_u_20 := j_u_20.trans i_t0; (xf_r i_u_20))) (xf_b1 (F := fun k => wp_X7_takesBack k t0) (fx_X7_takesBack t0) (fun u_22 j_u_22 => have i_u_22 := j_u_22.trans i_t0; (xf_r i_u_22)))))))) n16 u_5 x1 0 i_u_5))))) (xf_r rfl))))
set_option maxHeartbeats 4000000 in
theorem fx_X7_count (s0 : Md) (x1 : Int32) : xf (fun P : (Int32 × Md) → Prop => wp_X7_count (fun a0 a1 => P (a0, a1)) s0 x1) (fun o => o.2.2.2.2 2 = s0.2.2.2 2) := by
  unfold wp_X7_count
  exact (xf_p (xf_b1 (F := fun k => wp_X7_rows k s0) (xf_dt (dt_X7_rows s0)) (fun r_2 _ => (xf_r rfl))) (xf_p (xf_b1 (F := fun k => wp_X7_wide k s0) (xf_dt (dt_X7_wide s0)) (fun r_5 _ => (xf_r rfl))) (xf_p (xf_b1 (F := fun k => wp_X7_cells k s0) (xf_dt (dt_X7_cells s0)) (fun r_8 _ => (xf_r rfl))) (xf_p (xf_r rfl) (xf_p (xf_b1 (F := fun k => wp_X7_drums k s0) (xf_dt (dt_X7_drums s0)) (fun r_12 _ => (xf_r rfl))) (xf_p (xf_r rfl) (xf_p (xf_r rfl) (xf_p (xf_p (xf_p (xf_r rfl) (xf_r rfl)) (xf_p (xf_r rfl) (xf_r rfl))) (xf_p (xf_b1 (F := fun k => wp_X7_findsTurning k s0) (fx_X7_findsTurning s0) (fun u_22 j_u_22 => have i_u_22 := j_u_22.trans rfl; (xf_r i_u_22))) (xf_r rfl))))))))))
set_option maxHeartbeats 4000000 in
theorem fl_X7_asks_L13  {O : Type} {I : O → Prop} {c0 : Nat → Int32}  {G_post : Md → (O → Prop) → Prop} {G_e135 : Md → Int32 → Int32 → Int32 → Int32 → Int32 → (O → Prop) → Prop} (h_post : ∀ (v0 : Md), v0.2.2.2 2 = c0 → xf (G_post v0) I) (h_e135 : ∀ (v0 : Md) (v1 : Int32) (v2 : Int32) (v3 : Int32) (v4 : Int32) (v5 : Int32), v0.2.2.2 2 = c0 → xf (G_e135 v0 v1 v2 v3 v4 v5) I) : ∀ (n : Nat) (t0 : Md) (z1 : Int32) (z2 : Int32) (z3 : Int32) (z4 : Int32) (z5 : Int32), t0.2.2.2 2 = c0 → xf (fun P : O → Prop => wp_X7_asks_L13 (fun v0 => G_post v0 P) (fun v0 v1 v2 v3 v4 v5 => G_e135 v0 v1 v2 v3 v4 v5 P) n t0 z1 z2 z3 z4 z5) I := by
  intro n
  induction n with
  | zero => exact fun _ _ _ _ _ _ _ => xf_F
  | succ n13 ih =>
    intro t0 z1 z2 z3 z4 z5 i_t0
    unfold wp_X7_asks_L13
    exact (xf_b1 (F := fun k => wp_X7_wide k t0) (xf_dt (dt_X7_wide t0)) (fun r_1 _ => (xf_p (h_e135 t0 z1 z2 z3 z4 z5 i_t0) (xf_b1 (F := fun k => wp_X7_wide k t0) (xf_dt (dt_X7_wide t0)) (fun r_4 _ => (xf_p (xf_b1 (F := fun k => wp_X7_of k t0 ((r_4 * z1) + z5) (2 : Int32)) (xf_dt (dt_X7_of t0 ((r_4 * z1) + z5) (2 : Int32))) (fun r_7 _ => (xf_b1 (F := fun k => wp_X7_flaps k t0 ((r_4 * z1) + z5)) (xf_dt (dt_X7_flaps t0 ((r_4 * z1) + z5))) (fun r_9 _ => (xf_b1 (F := fun k => wp_X7_on k r_7 (0 : Int32) r_9) (xf_dt (dt_X7_on r_7 (0 : Int32) r_9)) (fun r_11 _ => (ih ((va_up t0.1 3 ((t0.1 3) + r_11)), t0.2.1, t0.2.2.1, t0.2.2.2) z1 z2 z3 z4 (z5 + 1) i_t0))))))) (xf_p (xf_b1 (F := fun k => wp_X7_of k t0 ((r_4 * z1) + z5) (2 : Int32)) (xf_dt (dt_X7_of t0 ((r_4 * z1) + z5) (2 : Int32))) (fun r_14 _ => (xf_b1 (F := fun k => wp_X7_flaps k t0 ((r_4 * z1) + z5)) (xf_dt (dt_X7_flaps t0 ((r_4 * z1) + z5))) (fun r_16 _ => (xf_b1 (F := fun k => wp_X7_on k r_14 (0 : Int32) r_16) (xf_dt (dt_X7_on r_14 (0 : Int32) r_16)) (fun r_18 _ => (ih ((va_up t0.1 3 ((t0.1 3) + r_18)), t0.2.1, t0.2.2.1, t0.2.2.2) z1 z2 z3 z4 (z5 + 1) i_t0))))))) (xf_c (xf_b1 (F := fun k => wp_X7_flapFor k t0 ((r_4 * z1) + z5) ((t0.2.2.2 2) (Int32.toNatClampNeg ((z3 + z5) - z2)))) (xf_dt (dt_X7_flapFor t0 ((r_4 * z1) + z5) ((t0.2.2.2 2) (Int32.toNatClampNeg ((z3 + z5) - z2))))) (fun r_21 _ => (xf_n (xf_b1 (F := fun k => wp_X7_of k t0 ((r_4 * z1) + z5) (2 : Int32)) (xf_dt (dt_X7_of t0 ((r_4 * z1) + z5) (2 : Int32))) (fun r_24 _ => (xf_b1 (F := fun k => wp_X7_flaps k t0 ((r_4 * z1) + z5)) (xf_dt (dt_X7_flaps t0 ((r_4 * z1) + z5))) (fun r_26 _ => (xf_b1 (F := fun k => wp_X7_on k r_24 r_21 r_26) (xf_dt (dt_X7_on r_24 r_21 r_26)) (fun r_28 _ => (ih ((va_up t0.1 3 ((t0.1 3) + r_28)), t0.2.1, t0.2.2.1, t0.2.2.2) z1 z2 z3 z4 (z5 + 1) i_t0))))))) (ih ((va_up t0.1 4 ((t0.1 4) + 1)), t0.2.1, t0.2.2.1, t0.2.2.2) z1 z2 z3 z4 (z5 + 1) i_t0))))))))))))
set_option maxHeartbeats 4000000 in
theorem fx_X7_asks (s0 : Md) (x1 : Int32) (x2 : Int32) (x3 : Int32) (x4 : Int32) : xf (fun P : Md → Prop => wp_X7_asks (fun a0 => P a0) s0 x1 x2 x3 x4) (fun o => o.2.2.2 2 = s0.2.2.2 2) := by
  unfold wp_X7_asks
  exact (xf_x (fun n13 => (fl_X7_asks_L13  (fun v0 i_v0 => (xf_r i_v0)) (fun t0 z1 z2 z3 z4 z5 i_t0 => (xf_r i_t0)) n13 ((va_up (va_up s0.1 3 0) 4 0), s0.2.1, s0.2.2.1, s0.2.2.2) x1 x2 x3 x4 0 rfl)))
set_option maxHeartbeats 4000000 in
theorem fx_X7_cost (s0 : Md) (x1 : Int32) : xf (fun P : (Int32 × Md) → Prop => wp_X7_cost (fun a0 a1 => P (a0, a1)) s0 x1) (fun o => o.2.2.2.2 2 = s0.2.2.2 2) := by
  unfold wp_X7_cost
  exact (xf_b1 (F := fun k => wp_X7_isRow k s0 x1) (xf_dt (dt_X7_isRow s0 x1)) (fun r_1 _ => (xf_n (xf_b1 (F := fun k => wp_X7_isRowText k s0 (s0.1 5)) (xf_dt (dt_X7_isRowText s0 (s0.1 5))) (fun r_4 _ => (xf_n (xf_b1 (F := fun k => wp_X7_asks k s0 x1 (0 : Int32) (0 : Int32) (s0.1 5)) (fx_X7_asks s0 x1 (0 : Int32) (0 : Int32) (s0.1 5)) (fun u_8 j_u_8 => have i_u_8 := j_u_8.trans rfl; (xf_r i_u_8))) (xf_r rfl)))) (xf_r rfl))))
set_option maxHeartbeats 4000000 in
theorem fl_X7_best_L36  {O : Type} {I : O → Prop} {c0 : Nat → Int32}  {G_post : Int32 → Md → (O → Prop) → Prop} {G_e152 : Md → Int32 → Int32 → Int32 → Int32 → Int32 → Int32 → Int32 → (O → Prop) → Prop} (h_post : ∀ (v0 : Int32) (v1 : Md), v1.2.2.2 2 = c0 → xf (G_post v0 v1) I) (h_e152 : ∀ (v0 : Md) (v1 : Int32) (v2 : Int32) (v3 : Int32) (v4 : Int32) (v5 : Int32) (v6 : Int32) (v7 : Int32), v0.2.2.2 2 = c0 → xf (G_e152 v0 v1 v2 v3 v4 v5 v6 v7) I) : ∀ (n : Nat) (t0 : Md) (z1 : Int32) (z2 : Int32) (z3 : Int32) (z4 : Int32) (z5 : Int32) (z6 : Int32) (z7 : Int32), t0.2.2.2 2 = c0 → xf (fun P : O → Prop => wp_X7_best_L36 (fun v0 v1 => G_post v0 v1 P) (fun v0 v1 v2 v3 v4 v5 v6 v7 => G_e152 v0 v1 v2 v3 v4 v5 v6 v7 P) n t0 z1 z2 z3 z4 z5 z6 z7) I := by
  intro n
  induction n with
  | zero => exact fun _ _ _ _ _ _ _ _ _ => xf_F
  | succ n36 ih =>
    intro t0 z1 z2 z3 z4 z5 z6 z7 i_t0
    unfold wp_X7_best_L36
    exact (xf_p (h_e152 t0 z1 z2 z3 z4 z5 z6 z7 i_t0) (xf_b1 (F := fun k => wp_X7_endOf k t0 z7) (xf_dt (dt_X7_endOf t0 z7)) (fun r_8 _ => (xf_b1 (F := fun k => wp_X7_wide k t0) (xf_dt (dt_X7_wide t0)) (fun r_10 _ => (xf_p (h_post (-2) t0 i_t0) (xf_b1 (F := fun k => wp_X7_areSigns k t0 z7 (r_8 - z7)) (xf_dt (dt_X7_areSigns t0 z7 (r_8 - z7))) (fun r_13 _ => (xf_n (xf_b1 (F := fun k => wp_X7_asks k t0 z1 (0 : Int32) z7 (r_8 - z7)) (fx_X7_asks t0 z1 (0 : Int32) z7 (r_8 - z7)) (fun u_17 j_u_17 => have i_u_17 := j_u_17.trans i_t0; (xf_p (xf_b1 (F := fun k => wp_X7_endOf k u_17 z7) (xf_dt (dt_X7_endOf u_17 z7)) (fun r_19 _ => (ih u_17 z1 z2 z6 (u_17.1 3) (u_17.1 4) (z6 + 1) (r_19 + 1) i_u_17))) (xf_p (xf_b1 (F := fun k => wp_X7_endOf k u_17 z7) (xf_dt (dt_X7_endOf u_17 z7)) (fun r_22 _ => (ih u_17 z1 z2 z6 (u_17.1 3) (u_17.1 4) (z6 + 1) (r_22 + 1) i_u_17))) (xf_n (xf_b1 (F := fun k => wp_X7_endOf k u_17 z7) (xf_dt (dt_X7_endOf u_17 z7)) (fun r_25 _ => (ih u_17 z1 z2 z3 z4 z5 (z6 + 1) (r_25 + 1) i_u_17))) (xf_p (xf_b1 (F := fun k => wp_X7_endOf k u_17 z7) (xf_dt (dt_X7_endOf u_17 z7)) (fun r_28 _ => (ih u_17 z1 z2 z3 z4 z5 (z6 + 1) (r_28 + 1) i_u_17))) (xf_b1 (F := fun k => wp_X7_endOf k u_17 z7) (xf_dt (dt_X7_endOf u_17 z7)) (fun r_30 _ => (ih u_17 z1 z2 z6 (u_17.1 3) (u_17.1 4) (z6 + 1) (r_30 + 1) i_u_17))))))))) (h_post (-2) t0 i_t0))))))))))
set_option maxHeartbeats 4000000 in
theorem fx_X7_best (s0 : Md) (x1 : Int32) (x2 : Int32) : xf (fun P : (Int32 × Md) → Prop => wp_X7_best (fun a0 a1 => P (a0, a1)) s0 x1 x2) (fun o => o.2.2.2.2 2 = s0.2.2.2 2) := by
  unfold wp_X7_best
  exact (xf_b1 (F := fun k => wp_X7_isRow k s0 x1) (xf_dt (dt_X7_isRow s0 x1)) (fun r_1 _ => (xf_p (xf_r rfl) (xf_b1 (F := fun k => wp_X7_in k (Int32.toInt64 x2) (0 : Int64) (2 : Int64)) (xf_dt (dt_X7_in (Int32.toInt64 x2) (0 : Int64) (2 : Int64))) (fun r_4 _ => (xf_n (xf_x (fun n36 => (fl_X7_best_L36  (fun v0 v1 i_v1 => (xf_r i_v1)) (fun t0 z1 z2 z3 z4 z5 z6 z7 i_t0 => (xf_n (xf_n (xf_r i_t0) (xf_r i_t0)) (xf_r i_t0))) n36 s0 x1 x2 (-1) 0 0 0 0 rfl))) (xf_r rfl)))))))
set_option maxHeartbeats 4000000 in
theorem fl_X7_place_L52  {O : Type} {I : O → Prop} {c0 : Nat → Int32}  {G_post : Int32 → Md → (O → Prop) → Prop} {G_e134 : Md → Int32 → Int32 → Int32 → Int32 → Int32 → Int32 → (O → Prop) → Prop} (h_post : ∀ (v0 : Int32) (v1 : Md), v1.2.2.2 2 = c0 → xf (G_post v0 v1) I) (h_e134 : ∀ (v0 : Md) (v1 : Int32) (v2 : Int32) (v3 : Int32) (v4 : Int32) (v5 : Int32) (v6 : Int32), v0.2.2.2 2 = c0 → xf (G_e134 v0 v1 v2 v3 v4 v5 v6) I) : ∀ (n : Nat) (t0 : Md) (z1 : Int32) (z2 : Int32) (z3 : Int32) (z4 : Int32) (z5 : Int32) (z6 : Int32), t0.2.2.2 2 = c0 → xf (fun P : O → Prop => wp_X7_place_L52 (fun v0 v1 => G_post v0 v1 P) (fun v0 v1 v2 v3 v4 v5 v6 => G_e134 v0 v1 v2 v3 v4 v5 v6 P) n t0 z1 z2 z3 z4 z5 z6) I := by
  intro n
  induction n with
  | zero => exact fun _ _ _ _ _ _ _ _ => xf_F
  | succ n52 ih =>
    intro t0 z1 z2 z3 z4 z5 z6 i_t0
    unfold wp_X7_place_L52
    exact (xf_b1 (F := fun k => wp_X7_wide k t0) (xf_dt (dt_X7_wide t0)) (fun r_11 _ => (xf_p (h_e134 t0 z1 z2 z3 z4 z5 z6 i_t0) (xf_b1 (F := fun k => wp_X7_asks k t0 z1 z6 (0 : Int32) (t0.1 5)) (fx_X7_asks t0 z1 z6 (0 : Int32) (t0.1 5)) (fun u_15 j_u_15 => have i_u_15 := j_u_15.trans i_t0; (xf_p (ih u_15 z1 z2 z6 (u_15.1 3) (u_15.1 4) (z6 + 1) i_u_15) (xf_p (ih u_15 z1 z2 z3 z4 z5 (z6 + 1) i_u_15) (xf_n (ih u_15 z1 z2 z6 (u_15.1 3) (u_15.1 4) (z6 + 1) i_u_15) (xf_p (ih u_15 z1 z2 z6 (u_15.1 3) (u_15.1 4) (z6 + 1) i_u_15) (ih u_15 z1 z2 z3 z4 z5 (z6 + 1) i_u_15))))))))))
set_option maxHeartbeats 4000000 in
theorem fx_X7_place (s0 : Md) (x1 : Int32) (x2 : Int32) : xf (fun P : (Int32 × Md) → Prop => wp_X7_place (fun a0 a1 => P (a0, a1)) s0 x1 x2) (fun o => o.2.2.2.2 2 = s0.2.2.2 2) := by
  unfold wp_X7_place
  exact (xf_b1 (F := fun k => wp_X7_isRow k s0 x1) (xf_dt (dt_X7_isRow s0 x1)) (fun r_1 _ => (xf_p (xf_r rfl) (xf_b1 (F := fun k => wp_X7_in k (Int32.toInt64 x2) (0 : Int64) (1 : Int64)) (xf_dt (dt_X7_in (Int32.toInt64 x2) (0 : Int64) (1 : Int64))) (fun r_4 _ => (xf_n (xf_p (xf_r rfl) (xf_b1 (F := fun k => wp_X7_isRowText k s0 (s0.1 5)) (xf_dt (dt_X7_isRowText s0 (s0.1 5))) (fun r_8 _ => (xf_n (xf_x (fun n52 => (fl_X7_place_L52  (fun v0 v1 i_v1 => (xf_r i_v1)) (fun t0 z1 z2 z3 z4 z5 z6 i_t0 => (xf_n (xf_r i_t0) (xf_r i_t0))) n52 s0 x1 x2 (-1) 0 0 0 rfl))) (xf_r rfl))))) (xf_r rfl)))))))
set_option maxHeartbeats 4000000 in
theorem fx_X7_end (s0 : Md) (x1 : Int32) : xf (fun P : (Int32 × Md) → Prop => wp_X7_end (fun a0 a1 => P (a0, a1)) s0 x1) (fun o => o.2.2.2.2 2 = s0.2.2.2 2) := by
  unfold wp_X7_end
  exact (xf_b1 (F := fun k => wp_X7_in k (Int32.toInt64 x1) (0 : Int64) (Int32.toInt64 (s0.1 5))) (xf_dt (dt_X7_in (Int32.toInt64 x1) (0 : Int64) (Int32.toInt64 (s0.1 5)))) (fun r_1 _ => (xf_n (xf_r rfl) (xf_r rfl))))
set_option maxHeartbeats 4000000 in
theorem fl_X7_nextByte_L0  {O : Type} {I : O → Prop} {c0 : Nat → Int32}  {G_post : Int32 → Md → (O → Prop) → Prop} {G_e26 : Md → (O → Prop) → Prop} (h_post : ∀ (v0 : Int32) (v1 : Md), v1.2.2.2 2 = c0 → xf (G_post v0 v1) I) (h_e26 : ∀ (v0 : Md), v0.2.2.2 2 = c0 → xf (G_e26 v0) I) : ∀ (n : Nat) (t0 : Md), t0.2.2.2 2 = c0 → xf (fun P : O → Prop => wp_X7_nextByte_L0 (fun v0 v1 => G_post v0 v1 P) (fun v0 => G_e26 v0 P) n t0) I := by
  intro n
  induction n with
  | zero => exact fun _ _ => xf_F
  | succ n0 ih =>
    intro t0 i_t0
    unfold wp_X7_nextByte_L0
    exact (xf_b1 (F := fun k => wp_X7_byteAt k t0 (t0.1 6)) (xf_dt (dt_X7_byteAt t0 (t0.1 6))) (fun r_1 _ => (xf_n (h_e26 t0 i_t0) (ih ((va_up t0.1 6 ((t0.1 6) + 1)), t0.2.1, t0.2.2.1, t0.2.2.2) i_t0))))
set_option maxHeartbeats 4000000 in
theorem fx_X7_nextByte (s0 : Md) : xf (fun P : (Int32 × Md) → Prop => wp_X7_nextByte (fun a0 a1 => P (a0, a1)) s0) (fun o => o.2.2.2.2 2 = s0.2.2.2 2) := by
  unfold wp_X7_nextByte
  exact (xf_x (fun n0 => (fl_X7_nextByte_L0  (fun v0 v1 i_v1 => (xf_r i_v1)) (fun t0 i_t0 => (xf_b1 (F := fun k => wp_X7_byteAt k t0 (t0.1 6)) (xf_dt (dt_X7_byteAt t0 (t0.1 6))) (fun r_4 _ => (xf_r i_t0)))) n0 s0 rfl)))
set_option maxHeartbeats 4000000 in
theorem fx_X7_fails (s0 : Md) (x1 : Int32) (x2 : Int32) : xf (fun P : (Int32 × Md) → Prop => wp_X7_fails (fun a0 a1 => P (a0, a1)) s0 x1 x2) (fun o => o.2.2.2.2 2 = s0.2.2.2 2) := by
  unfold wp_X7_fails
  exact (xf_r rfl)
set_option maxHeartbeats 4000000 in
theorem fl_X7_isWord_L22 (i1 : Nat) {O : Type} {I : O → Prop} {c0 : Nat → Int32}  {G_post : Int32 → Md → (O → Prop) → Prop} {G_e51 : Md → Int32 → Int32 → (O → Prop) → Prop} (h_post : ∀ (v0 : Int32) (v1 : Md), v1.2.2.2 2 = c0 → xf (G_post v0 v1) I) (h_e51 : ∀ (v0 : Md) (v1 : Int32) (v2 : Int32), v0.2.2.2 2 = c0 → xf (G_e51 v0 v1 v2) I) : ∀ (n : Nat) (t0 : Md) (z2 : Int32) (z3 : Int32), t0.2.2.2 2 = c0 → xf (fun P : O → Prop => wp_X7_isWord_L22 i1 (fun v0 v1 => G_post v0 v1 P) (fun v0 v1 v2 => G_e51 v0 v1 v2 P) n t0 z2 z3) I := by
  intro n
  induction n with
  | zero => exact fun _ _ _ _ => xf_F
  | succ n22 ih =>
    intro t0 z2 z3 i_t0
    unfold wp_X7_isWord_L22
    exact (xf_b1 (F := fun k => wp_J0_length_8abf5 k i1) (xf_dt (dt_J0_length_8abf5 i1)) (fun r_4 _ => (xf_p (h_e51 t0 z2 z3 i_t0) (xf_b1 (F := fun k => wp_X7_byteAt k t0 (z2 + z3)) (xf_dt (dt_X7_byteAt t0 (z2 + z3))) (fun r_7 _ => (xf_b1 (F := fun k => wp_J0_charAt_5068e k i1 z3) (xf_dt (dt_J0_charAt_5068e i1 z3)) (fun r_9 _ => (xf_n (h_e51 t0 z2 z3 i_t0) (ih t0 z2 (z3 + 1) i_t0)))))))))
set_option maxHeartbeats 4000000 in
theorem fl_X7_isWord_L22b (i1 : Nat) {O : Type} {I : O → Prop} {c0 : Nat → Int32}  {G_post : Int32 → Md → (O → Prop) → Prop} {G_e51 : Md → Int32 → Int32 → (O → Prop) → Prop} (h_post : ∀ (v0 : Int32) (v1 : Md), v1.2.2.2 2 = c0 → xf (G_post v0 v1) I) (h_e51 : ∀ (v0 : Md) (v1 : Int32) (v2 : Int32), v0.2.2.2 2 = c0 → xf (G_e51 v0 v1 v2) I) : ∀ (n : Nat) (t0 : Md) (z2 : Int32) (z3 : Int32), t0.2.2.2 2 = c0 → xf (fun P : O → Prop => wp_X7_isWord_L22b i1 (fun v0 v1 => G_post v0 v1 P) (fun v0 v1 v2 => G_e51 v0 v1 v2 P) n t0 z2 z3) I := by
  intro n
  induction n with
  | zero => exact fun _ _ _ _ => xf_F
  | succ n22 ih =>
    intro t0 z2 z3 i_t0
    unfold wp_X7_isWord_L22b
    exact (xf_b1 (F := fun k => wp_J0_length_8abf5 k i1) (xf_dt (dt_J0_length_8abf5 i1)) (fun r_20 _ => (xf_p (h_e51 t0 z2 z3 i_t0) (xf_b1 (F := fun k => wp_X7_byteAt k t0 (z2 + z3)) (xf_dt (dt_X7_byteAt t0 (z2 + z3))) (fun r_23 _ => (xf_b1 (F := fun k => wp_J0_charAt_5068e k i1 z3) (xf_dt (dt_J0_charAt_5068e i1 z3)) (fun r_25 _ => (xf_n (h_e51 t0 z2 z3 i_t0) (ih t0 z2 (z3 + 1) i_t0)))))))))

set_option maxHeartbeats 4000000 in
theorem fx_X7_isWord (s0 : Md) (i1 : Nat) : xf (fun P : (Int32 × Md) → Prop => wp_X7_isWord (fun a0 a1 => P (a0, a1)) s0 i1) (fun o => o.2.2.2.2 2 = s0.2.2.2 2) := by
  unfold wp_X7_isWord
  exact (xf_b2 (F := fun k => wp_X7_nextByte k s0) (fx_X7_nextByte s0) (fun r_1 u_2 j_u_2 => have i_u_2 := j_u_2.trans rfl; (xf_n (xf_x (fun n22 => (fl_X7_isWord_L22 i1 (fun v0 v1 i_v1 => (xf_r i_v1)) (fun t0 z2 z3 i_t0 => (xf_b1 (F := fun k => wp_J0_length_8abf5 k i1) (xf_dt (dt_J0_length_8abf5 i1)) (fun r_12 _ => (xf_n (xf_r i_t0) (xf_b1 (F := fun k => wp_X7_byteAt k t0 (z2 + z3)) (xf_dt (dt_X7_byteAt t0 (z2 + z3))) (fun r_15 _ => (xf_b1 (F := fun k => wp_X7_in k (Int32.toInt64 r_15) (97 : Int64) (122 : Int64)) (xf_dt (dt_X7_in (Int32.toInt64 r_15) (97 : Int64) (122 : Int64))) (fun r_17 _ => (xf_n (xf_r i_t0) (xf_r i_t0)))))))))) n22 u_2 (u_2.1 6) 0 i_u_2))) (xf_x (fun n22 => (fl_X7_isWord_L22b i1 (fun v0 v1 i_v1 => (xf_r i_v1)) (fun t0 z2 z3 i_t0 => (xf_b1 (F := fun k => wp_J0_length_8abf5 k i1) (xf_dt (dt_J0_length_8abf5 i1)) (fun r_28 _ => (xf_n (xf_r i_t0) (xf_b1 (F := fun k => wp_X7_byteAt k t0 (z2 + z3)) (xf_dt (dt_X7_byteAt t0 (z2 + z3))) (fun r_31 _ => (xf_b1 (F := fun k => wp_X7_in k (Int32.toInt64 r_31) (97 : Int64) (122 : Int64)) (xf_dt (dt_X7_in (Int32.toInt64 r_31) (97 : Int64) (122 : Int64))) (fun r_33 _ => (xf_n (xf_r i_t0) (xf_r i_t0)))))))))) n22 u_2 (u_2.1 5) 0 i_u_2))))))
set_option maxHeartbeats 4000000 in
theorem fx_X7_takesWord (s0 : Md) (i1 : Nat) : xf (fun P : (Int32 × Md) → Prop => wp_X7_takesWord (fun a0 a1 => P (a0, a1)) s0 i1) (fun o => o.2.2.2.2 2 = s0.2.2.2 2) := by
  unfold wp_X7_takesWord
  exact (xf_b2 (F := fun k => wp_X7_isWord k s0 i1) (fx_X7_isWord s0 i1) (fun r_1 u_2 j_u_2 => have i_u_2 := j_u_2.trans rfl; (xf_p (xf_c (xf_r i_u_2)) (xf_b1 (F := fun k => wp_J0_length_8abf5 k i1) (xf_dt (dt_J0_length_8abf5 i1)) (fun r_5 _ => (xf_c (xf_r i_u_2)))))))
set_option maxHeartbeats 4000000 in
theorem fx_X7_mustWord (s0 : Md) (i1 : Nat) : xf (fun P : (Int32 × Md) → Prop => wp_X7_mustWord (fun a0 a1 => P (a0, a1)) s0 i1) (fun o => o.2.2.2.2 2 = s0.2.2.2 2) := by
  unfold wp_X7_mustWord
  exact (xf_b2 (F := fun k => wp_X7_takesWord k s0 i1) (fx_X7_takesWord s0 i1) (fun r_1 u_2 j_u_2 => have i_u_2 := j_u_2.trans rfl; (xf_n (xf_r i_u_2) (xf_b2 (F := fun k => wp_X7_fails k u_2 (1 : Int32) (u_2.1 6)) (fx_X7_fails u_2 (1 : Int32) (u_2.1 6)) (fun r_4 u_5 j_u_5 => have i_u_5 := j_u_5.trans i_u_2; (xf_p (xf_r i_u_5) (xf_r i_u_5)))))))
set_option maxHeartbeats 4000000 in
theorem fx_X7_takesByte (s0 : Md) (x1 : Int32) : xf (fun P : (Int32 × Md) → Prop => wp_X7_takesByte (fun a0 a1 => P (a0, a1)) s0 x1) (fun o => o.2.2.2.2 2 = s0.2.2.2 2) := by
  unfold wp_X7_takesByte
  exact (xf_b2 (F := fun k => wp_X7_nextByte k s0) (fx_X7_nextByte s0) (fun r_1 u_2 j_u_2 => have i_u_2 := j_u_2.trans rfl; (xf_n (xf_r i_u_2) (xf_r i_u_2))))
set_option maxHeartbeats 4000000 in
theorem fx_X7_mustByte (s0 : Md) (x1 : Int32) : xf (fun P : (Int32 × Md) → Prop => wp_X7_mustByte (fun a0 a1 => P (a0, a1)) s0 x1) (fun o => o.2.2.2.2 2 = s0.2.2.2 2) := by
  unfold wp_X7_mustByte
  exact (xf_b2 (F := fun k => wp_X7_takesByte k s0 x1) (fx_X7_takesByte s0 x1) (fun r_1 u_2 j_u_2 => have i_u_2 := j_u_2.trans rfl; (xf_n (xf_r i_u_2) (xf_b2 (F := fun k => wp_X7_fails k u_2 (1 : Int32) (u_2.1 6)) (fx_X7_fails u_2 (1 : Int32) (u_2.1 6)) (fun r_4 u_5 j_u_5 => have i_u_5 := j_u_5.trans i_u_2; (xf_p (xf_r i_u_5) (xf_r i_u_5)))))))
set_option maxHeartbeats 4000000 in
theorem fl_X7_readsNumber_L40  {O : Type} {I : O → Prop} {c0 : Nat → Int32}  {G_post : Int32 → Md → (O → Prop) → Prop} {G_e107 : Md → Int32 → Int32 → (O → Prop) → Prop} (h_post : ∀ (v0 : Int32) (v1 : Md), v1.2.2.2 2 = c0 → xf (G_post v0 v1) I) (h_e107 : ∀ (v0 : Md) (v1 : Int32) (v2 : Int32), v0.2.2.2 2 = c0 → xf (G_e107 v0 v1 v2) I) : ∀ (n : Nat) (t0 : Md) (z1 : Int32) (z2 : Int32), t0.2.2.2 2 = c0 → xf (fun P : O → Prop => wp_X7_readsNumber_L40 (fun v0 v1 => G_post v0 v1 P) (fun v0 v1 v2 => G_e107 v0 v1 v2 P) n t0 z1 z2) I := by
  intro n
  induction n with
  | zero => exact fun _ _ _ _ => xf_F
  | succ n40 ih =>
    intro t0 z1 z2 i_t0
    unfold wp_X7_readsNumber_L40
    exact (xf_b1 (F := fun k => wp_X7_byteAt k t0 (t0.1 6)) (xf_dt (dt_X7_byteAt t0 (t0.1 6))) (fun r_6 _ => (xf_b1 (F := fun k => wp_X7_in k (Int32.toInt64 r_6) (48 : Int64) (57 : Int64)) (xf_dt (dt_X7_in (Int32.toInt64 r_6) (48 : Int64) (57 : Int64))) (fun r_8 _ => (xf_p (h_e107 t0 z1 z2 i_t0) (xf_p (ih ((va_up t0.1 6 ((t0.1 6) + 1)), t0.2.1, t0.2.2.1, t0.2.2.2) z1 z2 i_t0) (xf_b1 (F := fun k => wp_X7_byteAt k t0 (t0.1 6)) (xf_dt (dt_X7_byteAt t0 (t0.1 6))) (fun r_12 _ => (ih ((va_up (va_up t0.1 6 ((t0.1 6) + 1)) 8 (((10 * (t0.1 8)) + r_12) - 48)), t0.2.1, t0.2.2.1, t0.2.2.2) z1 z2 i_t0)))))))))
set_option maxHeartbeats 4000000 in
theorem fx_X7_readsNumber (s0 : Md) (x1 : Int32) (x2 : Int32) : xf (fun P : (Int32 × Md) → Prop => wp_X7_readsNumber (fun a0 a1 => P (a0, a1)) s0 x1 x2) (fun o => o.2.2.2.2 2 = s0.2.2.2 2) := by
  unfold wp_X7_readsNumber
  exact (xf_b2 (F := fun k => wp_X7_nextByte k s0) (fx_X7_nextByte s0) (fun r_1 u_2 j_u_2 => have i_u_2 := j_u_2.trans rfl; (xf_b1 (F := fun k => wp_X7_in k (Int32.toInt64 r_1) (48 : Int64) (57 : Int64)) (xf_dt (dt_X7_in (Int32.toInt64 r_1) (48 : Int64) (57 : Int64))) (fun r_3 _ => (xf_n (xf_x (fun n40 => (fl_X7_readsNumber_L40  (fun v0 v1 i_v1 => (xf_r i_v1)) (fun t0 z1 z2 i_t0 => (xf_b1 (F := fun k => wp_X7_in k (Int32.toInt64 (t0.1 8)) (Int32.toInt64 z1) (Int32.toInt64 z2)) (xf_dt (dt_X7_in (Int32.toInt64 (t0.1 8)) (Int32.toInt64 z1) (Int32.toInt64 z2))) (fun r_14 _ => (xf_n (xf_r i_t0) (xf_b2 (F := fun k => wp_X7_fails k t0 (2 : Int32) (t0.1 9)) (fx_X7_fails t0 (2 : Int32) (t0.1 9)) (fun r_17 u_18 j_u_18 => have i_u_18 := j_u_18.trans i_t0; (xf_p (xf_r i_u_18) (xf_r i_u_18)))))))) n40 ((va_up (va_up u_2.1 8 0) 9 (u_2.1 6)), u_2.2.1, u_2.2.2.1, u_2.2.2.2) x1 x2 i_u_2))) (xf_b2 (F := fun k => wp_X7_fails k u_2 (1 : Int32) (u_2.1 6)) (fx_X7_fails u_2 (1 : Int32) (u_2.1 6)) (fun r_20 u_21 j_u_21 => have i_u_21 := j_u_21.trans i_u_2; (xf_c (xf_r i_u_21)))))))))
set_option maxHeartbeats 4000000 in
theorem fl_X7_readsQuoted_L24  {O : Type} {I : O → Prop} {c0 : Nat → Int32}  {G_post : Int32 → Md → (O → Prop) → Prop} {G_e102 : Md → Int32 → Int32 → (O → Prop) → Prop} (h_post : ∀ (v0 : Int32) (v1 : Md), v1.2.2.2 2 = c0 → xf (G_post v0 v1) I) (h_e102 : ∀ (v0 : Md) (v1 : Int32) (v2 : Int32), v0.2.2.2 2 = c0 → xf (G_e102 v0 v1 v2) I) : ∀ (n : Nat) (t0 : Md) (z1 : Int32) (z2 : Int32), t0.2.2.2 2 = c0 → xf (fun P : O → Prop => wp_X7_readsQuoted_L24 (fun v0 v1 => G_post v0 v1 P) (fun v0 v1 v2 => G_e102 v0 v1 v2 P) n t0 z1 z2) I := by
  intro n
  induction n with
  | zero => exact fun _ _ _ _ => xf_F
  | succ n24 ih =>
    intro t0 z1 z2 i_t0
    unfold wp_X7_readsQuoted_L24
    exact (xf_b1 (F := fun k => wp_X7_byteAt k t0 (t0.1 6)) (xf_dt (dt_X7_byteAt t0 (t0.1 6))) (fun r_4 _ => (xf_p (h_e102 t0 z1 z2 i_t0) (xf_b1 (F := fun k => wp_X7_byteAt k t0 (t0.1 6)) (xf_dt (dt_X7_byteAt t0 (t0.1 6))) (fun r_7 _ => (xf_b1 (F := fun k => wp_X7_isSign k r_7) (xf_dt (dt_X7_isSign r_7)) (fun r_9 _ => (xf_n (xf_n (ih ((va_up (va_up t0.1 6 ((t0.1 6) + 1)) 11 ((t0.1 11) + 1)), t0.2.1, t0.2.2.1, t0.2.2.2) z1 z2 i_t0) (xf_b2 (F := fun k => wp_X7_fails k t0 (2 : Int32) (t0.1 6)) (fx_X7_fails t0 (2 : Int32) (t0.1 6)) (fun r_13 u_14 j_u_14 => have i_u_14 := j_u_14.trans i_t0; (xf_c (h_post r_13 u_14 i_u_14))))) (xf_b2 (F := fun k => wp_X7_fails k t0 (1 : Int32) (t0.1 6)) (fx_X7_fails t0 (1 : Int32) (t0.1 6)) (fun r_16 u_17 j_u_17 => have i_u_17 := j_u_17.trans i_t0; (xf_c (h_post r_16 u_17 i_u_17))))))))))))
set_option maxHeartbeats 4000000 in
theorem fx_X7_readsQuoted (s0 : Md) (x1 : Int32) (x2 : Int32) : xf (fun P : (Int32 × Md) → Prop => wp_X7_readsQuoted (fun a0 a1 => P (a0, a1)) s0 x1 x2) (fun o => o.2.2.2.2 2 = s0.2.2.2 2) := by
  unfold wp_X7_readsQuoted
  exact (xf_b2 (F := fun k => wp_X7_mustByte k s0 (39 : Int32)) (fx_X7_mustByte s0 (39 : Int32)) (fun r_1 u_2 j_u_2 => have i_u_2 := j_u_2.trans rfl; (xf_n (xf_x (fun n24 => (fl_X7_readsQuoted_L24  (fun v0 v1 i_v1 => (xf_r i_v1)) (fun t0 z1 z2 i_t0 => (xf_p (xf_r i_t0) (xf_b2 (F := fun k => wp_X7_fails k t0 (2 : Int32) (t0.1 6)) (fx_X7_fails t0 (2 : Int32) (t0.1 6)) (fun r_20 u_21 j_u_21 => have i_u_21 := j_u_21.trans i_t0; (xf_c (xf_r i_u_21)))))) n24 ((va_up (va_up u_2.1 10 (u_2.1 6)) 11 0), u_2.2.1, u_2.2.2.1, u_2.2.2.2) x1 x2 i_u_2))) (xf_r i_u_2))))
set_option maxHeartbeats 4000000 in
theorem fl_X7_readsDrum_L91  {O : Type} {I : O → Prop} {c0 : Nat → Int32}  {G_post : Int32 → Md → (O → Prop) → Prop} {G_e127 : Md → Int32 → Int32 → Int32 → (O → Prop) → Prop} (h_post : ∀ (v0 : Int32) (v1 : Md), v1.2.2.2 2 = c0 → xf (G_post v0 v1) I) (h_e127 : ∀ (v0 : Md) (v1 : Int32) (v2 : Int32) (v3 : Int32), v0.2.2.2 2 = c0 → xf (G_e127 v0 v1 v2 v3) I) : ∀ (n : Nat) (t0 : Md) (z1 : Int32) (z2 : Int32) (z3 : Int32), t0.2.2.2 2 = c0 → xf (fun P : O → Prop => wp_X7_readsDrum_L91 (fun v0 v1 => G_post v0 v1 P) (fun v0 v1 v2 v3 => G_e127 v0 v1 v2 v3 P) n t0 z1 z2 z3) I := by
  intro n
  induction n with
  | zero => exact fun _ _ _ _ _ => xf_F
  | succ n91 ih =>
    intro t0 z1 z2 z3 i_t0
    unfold wp_X7_readsDrum_L91
    exact (xf_p (h_e127 t0 z1 z2 z3 i_t0) (xf_c (xf_c (ih (t0.1, t0.2.1, (va_up t0.2.2.1 0 (vp_updL (t0.2.2.1 0) (Int32.toNatClampNeg ((z2 + 2) + z3)) (Int32.toInt64 ((t0.2.2.2 2) (Int32.toNatClampNeg ((t0.1 10) + z3)))))), t0.2.2.2) z1 z2 (z3 + 1) i_t0))))
set_option maxHeartbeats 4000000 in
theorem fx_X7_readsDrum (s0 : Md) : xf (fun P : (Int32 × Md) → Prop => wp_X7_readsDrum (fun a0 a1 => P (a0, a1)) s0) (fun o => o.2.2.2.2 2 = s0.2.2.2 2) := by
  unfold wp_X7_readsDrum
  exact (xf_b1 (F := fun k => wp_X7_drums k s0) (xf_dt (dt_X7_drums s0)) (fun r_1 _ => (xf_n (xf_b2 (F := fun k => wp_X7_readsNumber k ((va_up s0.1 6 ((s0.1 6) + 4)), s0.2.1, s0.2.2.1, s0.2.2.2) (1 : Int32) (9 : Int32)) (fx_X7_readsNumber ((va_up s0.1 6 ((s0.1 6) + 4)), s0.2.1, s0.2.2.1, s0.2.2.2) (1 : Int32) (9 : Int32)) (fun r_4 u_5 j_u_5 => have i_u_5 := j_u_5.trans rfl; (xf_n (xf_b2 (F := fun k => wp_X7_readsQuoted k u_5 (2 : Int32) (40 : Int32)) (fx_X7_readsQuoted u_5 (2 : Int32) (40 : Int32)) (fun r_7 u_8 j_u_8 => have i_u_8 := j_u_8.trans i_u_5; (xf_n (xf_b1 (F := fun k => wp_X7_drums k u_8) (xf_dt (dt_X7_drums u_8)) (fun r_10 _ => (xf_c (xf_c (xf_x (fun n91 => (fl_X7_readsDrum_L91  (fun v0 v1 i_v1 => (xf_r i_v1)) (fun t0 z1 z2 z3 i_t0 => (xf_r i_t0)) n91 (u_8.1, u_8.2.1, (va_up u_8.2.2.1 0 (vp_updL (vp_updL (u_8.2.2.1 0) (Int32.toNatClampNeg (8 + (42 * r_10))) (Int32.toInt64 (u_5.1 8))) (Int32.toNatClampNeg ((8 + (42 * r_10)) + 1)) (Int32.toInt64 (u_8.1 11)))), u_8.2.2.2) (u_5.1 8) (8 + (42 * r_10)) 0 i_u_8))))))) (xf_r i_u_8)))) (xf_r i_u_5)))) (xf_b2 (F := fun k => wp_X7_fails k s0 (3 : Int32) (s0.1 6)) (fx_X7_fails s0 (3 : Int32) (s0.1 6)) (fun r_17 u_18 j_u_18 => have i_u_18 := j_u_18.trans rfl; (xf_c (xf_r i_u_18)))))))
set_option maxHeartbeats 4000000 in
theorem fl_X7_readsCells_L78  {O : Type} {I : O → Prop} {c0 : Nat → Int32}  {G_post : Int32 → Md → (O → Prop) → Prop} {G_e99 : Md → Int32 → Int32 → Int32 → Int32 → (O → Prop) → Prop} (h_post : ∀ (v0 : Int32) (v1 : Md), v1.2.2.2 2 = c0 → xf (G_post v0 v1) I) (h_e99 : ∀ (v0 : Md) (v1 : Int32) (v2 : Int32) (v3 : Int32) (v4 : Int32), v0.2.2.2 2 = c0 → xf (G_e99 v0 v1 v2 v3 v4) I) : ∀ (n : Nat) (t0 : Md) (z1 : Int32) (z2 : Int32) (z3 : Int32) (z4 : Int32), t0.2.2.2 2 = c0 → xf (fun P : O → Prop => wp_X7_readsCells_L78 (fun v0 v1 => G_post v0 v1 P) (fun v0 v1 v2 v3 v4 => G_e99 v0 v1 v2 v3 v4 P) n t0 z1 z2 z3 z4) I := by
  intro n
  induction n with
  | zero => exact fun _ _ _ _ _ _ => xf_F
  | succ n78 ih =>
    intro t0 z1 z2 z3 z4 i_t0
    unfold wp_X7_readsCells_L78
    exact (xf_p (h_e99 t0 z1 z2 z3 z4 i_t0) (xf_b1 (F := fun k => wp_X7_sets k t0 z3 z4 (0 : Int64)) (fx_X7_sets t0 z3 z4 (0 : Int64)) (fun u_19 j_u_19 => have i_u_19 := j_u_19.trans i_t0; (ih u_19 z1 z2 z3 (z4 + 1) i_u_19))))
set_option maxHeartbeats 4000000 in
theorem fl_X7_readsCells_L70  {O : Type} {I : O → Prop} {c0 : Nat → Int32}  {G_post : Int32 → Md → (O → Prop) → Prop} {G_e116 : Md → Int32 → Int32 → Int32 → (O → Prop) → Prop} (h_post : ∀ (v0 : Int32) (v1 : Md), v1.2.2.2 2 = c0 → xf (G_post v0 v1) I) (h_e116 : ∀ (v0 : Md) (v1 : Int32) (v2 : Int32) (v3 : Int32), v0.2.2.2 2 = c0 → xf (G_e116 v0 v1 v2 v3) I) : ∀ (n : Nat) (t0 : Md) (z1 : Int32) (z2 : Int32) (z3 : Int32), t0.2.2.2 2 = c0 → xf (fun P : O → Prop => wp_X7_readsCells_L70 (fun v0 v1 => G_post v0 v1 P) (fun v0 v1 v2 v3 => G_e116 v0 v1 v2 v3 P) n t0 z1 z2 z3) I := by
  intro n
  induction n with
  | zero => exact fun _ _ _ _ _ => xf_F
  | succ n70 ih =>
    intro t0 z1 z2 z3 i_t0
    unfold wp_X7_readsCells_L70
    exact (xf_p (h_e116 t0 z1 z2 z3 i_t0) (xf_x (fun n78 => (fl_X7_readsCells_L78  (fun v0 v1 i_v1 => (h_post v0 v1 i_v1)) (fun t0 z1 z2 z3 z4 i_t0 => (xf_b1 (F := fun k => wp_X7_sets k t0 z3 (0 : Int32) (Int32.toInt64 (t0.1 8))) (fx_X7_sets t0 z3 (0 : Int32) (Int32.toInt64 (t0.1 8))) (fun u_21 j_u_21 => have i_u_21 := j_u_21.trans i_t0; (ih u_21 z1 z2 (z3 + 1) i_u_21)))) n78 t0 z1 z2 z3 0 i_t0))))
set_option maxHeartbeats 4000000 in
theorem fx_X7_readsCells (s0 : Md) : xf (fun P : (Int32 × Md) → Prop => wp_X7_readsCells (fun a0 a1 => P (a0, a1)) s0) (fun o => o.2.2.2.2 2 = s0.2.2.2 2) := by
  unfold wp_X7_readsCells
  exact (xf_b1 (F := fun k => wp_X7_cells k ((va_up s0.1 6 ((s0.1 6) + 5)), s0.2.1, s0.2.2.1, s0.2.2.2)) (xf_dt (dt_X7_cells ((va_up s0.1 6 ((s0.1 6) + 5)), s0.2.1, s0.2.2.1, s0.2.2.2))) (fun r_1 _ => (xf_b2 (F := fun k => wp_X7_readsNumber k ((va_up s0.1 6 ((s0.1 6) + 5)), s0.2.1, s0.2.2.1, s0.2.2.2) (0 : Int32) (r_1 - 1)) (fx_X7_readsNumber ((va_up s0.1 6 ((s0.1 6) + 5)), s0.2.1, s0.2.2.1, s0.2.2.2) (0 : Int32) (r_1 - 1)) (fun r_3 u_4 j_u_4 => have i_u_4 := j_u_4.trans rfl; (xf_n (xf_b1 (F := fun k => wp_X7_cells k u_4) (xf_dt (dt_X7_cells u_4)) (fun r_6 _ => (xf_b2 (F := fun k => wp_X7_readsNumber k u_4 (u_4.1 8) (r_6 - 1)) (fx_X7_readsNumber u_4 (u_4.1 8) (r_6 - 1)) (fun r_8 u_9 j_u_9 => have i_u_9 := j_u_9.trans i_u_4; (xf_n (xf_b1 (F := fun k => wp_X7_drums k u_9) (xf_dt (dt_X7_drums u_9)) (fun r_11 _ => (xf_b2 (F := fun k => wp_X7_readsNumber k u_9 (0 : Int32) (r_11 - 1)) (fx_X7_readsNumber u_9 (0 : Int32) (r_11 - 1)) (fun r_13 u_14 j_u_14 => have i_u_14 := j_u_14.trans i_u_9; (xf_n (xf_x (fun n70 => (fl_X7_readsCells_L70  (fun v0 v1 i_v1 => (xf_r i_v1)) (fun t0 z1 z2 z3 i_t0 => (xf_r i_t0)) n70 u_14 (u_4.1 8) (u_9.1 8) (u_4.1 8) i_u_14))) (xf_r i_u_14)))))) (xf_r i_u_9)))))) (xf_r i_u_4))))))
set_option maxHeartbeats 4000000 in
theorem fx_X7_readsWorn (s0 : Md) : xf (fun P : (Int32 × Md) → Prop => wp_X7_readsWorn (fun a0 a1 => P (a0, a1)) s0) (fun o => o.2.2.2.2 2 = s0.2.2.2 2) := by
  unfold wp_X7_readsWorn
  exact (xf_b1 (F := fun k => wp_X7_cells k ((va_up s0.1 6 ((s0.1 6) + 4)), s0.2.1, s0.2.2.1, s0.2.2.2)) (xf_dt (dt_X7_cells ((va_up s0.1 6 ((s0.1 6) + 4)), s0.2.1, s0.2.2.1, s0.2.2.2))) (fun r_1 _ => (xf_b2 (F := fun k => wp_X7_readsNumber k ((va_up s0.1 6 ((s0.1 6) + 4)), s0.2.1, s0.2.2.1, s0.2.2.2) (0 : Int32) (r_1 - 1)) (fx_X7_readsNumber ((va_up s0.1 6 ((s0.1 6) + 4)), s0.2.1, s0.2.2.1, s0.2.2.2) (0 : Int32) (r_1 - 1)) (fun r_3 u_4 j_u_4 => have i_u_4 := j_u_4.trans rfl; (xf_n (xf_b1 (F := fun k => wp_X7_flaps k u_4 (u_4.1 8)) (xf_dt (dt_X7_flaps u_4 (u_4.1 8))) (fun r_6 _ => (xf_b2 (F := fun k => wp_X7_readsNumber k u_4 (1 : Int32) (r_6 - 1)) (fx_X7_readsNumber u_4 (1 : Int32) (r_6 - 1)) (fun r_8 u_9 j_u_9 => have i_u_9 := j_u_9.trans i_u_4; (xf_n (xf_b1 (F := fun k => wp_X7_wornOf k u_9 (u_4.1 8)) (xf_dt (dt_X7_wornOf u_9 (u_4.1 8))) (fun r_11 _ => (xf_b1 (F := fun k => wp_X7_isIn k r_11 (u_9.1 8)) (xf_dt (dt_X7_isIn r_11 (u_9.1 8))) (fun r_13 _ => (xf_p (xf_b1 (F := fun k => wp_X7_wears k u_9 (u_4.1 8) (u_9.1 8)) (fx_X7_wears u_9 (u_4.1 8) (u_9.1 8)) (fun u_17 j_u_17 => have i_u_17 := j_u_17.trans i_u_9; (xf_r i_u_17))) (xf_b2 (F := fun k => wp_X7_fails k u_9 (2 : Int32) (u_9.1 9)) (fx_X7_fails u_9 (2 : Int32) (u_9.1 9)) (fun r_18 u_19 j_u_19 => have i_u_19 := j_u_19.trans i_u_9; (xf_c (xf_r i_u_19))))))))) (xf_r i_u_9)))))) (xf_r i_u_4))))))
set_option maxHeartbeats 4000000 in
theorem fl_X7_readsRow_L62  {O : Type} {I : O → Prop} {c0 : Nat → Int32}  {G_post : Int32 → Md → (O → Prop) → Prop} {G_e116 : Md → Int32 → Int32 → Int32 → (O → Prop) → Prop} (h_post : ∀ (v0 : Int32) (v1 : Md), v1.2.2.2 2 = c0 → xf (G_post v0 v1) I) (h_e116 : ∀ (v0 : Md) (v1 : Int32) (v2 : Int32) (v3 : Int32), v0.2.2.2 2 = c0 → xf (G_e116 v0 v1 v2 v3) I) : ∀ (n : Nat) (t0 : Md) (z1 : Int32) (z2 : Int32) (z3 : Int32), t0.2.2.2 2 = c0 → xf (fun P : O → Prop => wp_X7_readsRow_L62 (fun v0 v1 => G_post v0 v1 P) (fun v0 v1 v2 v3 => G_e116 v0 v1 v2 v3 P) n t0 z1 z2 z3) I := by
  intro n
  induction n with
  | zero => exact fun _ _ _ _ _ => xf_F
  | succ n62 ih =>
    intro t0 z1 z2 z3 i_t0
    unfold wp_X7_readsRow_L62
    exact (xf_b1 (F := fun k => wp_X7_wide k t0) (xf_dt (dt_X7_wide t0)) (fun r_13 _ => (xf_p (h_e116 t0 z1 z2 z3 i_t0) (xf_b1 (F := fun k => wp_X7_wide k t0) (xf_dt (dt_X7_wide t0)) (fun r_16 _ => (xf_b1 (F := fun k => wp_X7_of k t0 ((r_16 * z1) + z3) (3 : Int32)) (xf_dt (dt_X7_of t0 ((r_16 * z1) + z3) (3 : Int32))) (fun r_18 _ => (xf_b1 (F := fun k => wp_X7_sets k t0 ((r_16 * z1) + z3) (1 : Int32) (Int32.toInt64 r_18)) (fx_X7_sets t0 ((r_16 * z1) + z3) (1 : Int32) (Int32.toInt64 r_18)) (fun u_21 j_u_21 => have i_u_21 := j_u_21.trans i_t0; (xf_b1 (F := fun k => wp_X7_of k u_21 ((r_16 * z1) + z3) (3 : Int32)) (xf_dt (dt_X7_of u_21 ((r_16 * z1) + z3) (3 : Int32))) (fun r_22 _ => (xf_b1 (F := fun k => wp_X7_sets k u_21 ((r_16 * z1) + z3) (2 : Int32) (Int32.toInt64 r_22)) (fx_X7_sets u_21 ((r_16 * z1) + z3) (2 : Int32) (Int32.toInt64 r_22)) (fun u_25 j_u_25 => have i_u_25 := j_u_25.trans i_u_21; (ih u_25 z1 z2 (z3 + 1) i_u_25))))))))))))))
set_option maxHeartbeats 4000000 in
theorem fx_X7_readsRow (s0 : Md) : xf (fun P : (Int32 × Md) → Prop => wp_X7_readsRow (fun a0 a1 => P (a0, a1)) s0) (fun o => o.2.2.2.2 2 = s0.2.2.2 2) := by
  unfold wp_X7_readsRow
  exact (xf_b1 (F := fun k => wp_X7_rows k ((va_up s0.1 6 ((s0.1 6) + 3)), s0.2.1, s0.2.2.1, s0.2.2.2)) (xf_dt (dt_X7_rows ((va_up s0.1 6 ((s0.1 6) + 3)), s0.2.1, s0.2.2.1, s0.2.2.2))) (fun r_1 _ => (xf_b2 (F := fun k => wp_X7_readsNumber k ((va_up s0.1 6 ((s0.1 6) + 3)), s0.2.1, s0.2.2.1, s0.2.2.2) (0 : Int32) (r_1 - 1)) (fx_X7_readsNumber ((va_up s0.1 6 ((s0.1 6) + 3)), s0.2.1, s0.2.2.1, s0.2.2.2) (0 : Int32) (r_1 - 1)) (fun r_3 u_4 j_u_4 => have i_u_4 := j_u_4.trans rfl; (xf_n (xf_b1 (F := fun k => wp_X7_wide k u_4) (xf_dt (dt_X7_wide u_4)) (fun r_6 _ => (xf_b2 (F := fun k => wp_X7_readsQuoted k u_4 (0 : Int32) r_6) (fx_X7_readsQuoted u_4 (0 : Int32) r_6) (fun r_8 u_9 j_u_9 => have i_u_9 := j_u_9.trans i_u_4; (xf_n (xf_b2 (F := fun k => wp_X7_wantsSigns k u_9 (u_4.1 8) (u_9.1 10) (u_9.1 11) (0 : Int32)) (fx_X7_wantsSigns u_9 (u_4.1 8) (u_9.1 10) (u_9.1 11) (0 : Int32)) (fun r_11 u_12 j_u_12 => have i_u_12 := j_u_12.trans i_u_9; (xf_x (fun n62 => (fl_X7_readsRow_L62  (fun v0 v1 i_v1 => (xf_r i_v1)) (fun t0 z1 z2 z3 i_t0 => (xf_r i_t0)) n62 u_12 (u_4.1 8) r_11 0 i_u_12))))) (xf_r i_u_9)))))) (xf_r i_u_4))))))
set_option maxHeartbeats 4000000 in
theorem fx_X7_readsLose (s0 : Md) : xf (fun P : (Int32 × Md) → Prop => wp_X7_readsLose (fun a0 a1 => P (a0, a1)) s0) (fun o => o.2.2.2.2 2 = s0.2.2.2 2) := by
  unfold wp_X7_readsLose
  exact (xf_b1 (F := fun k => wp_X7_cells k ((va_up s0.1 6 ((s0.1 6) + 4)), s0.2.1, s0.2.2.1, s0.2.2.2)) (xf_dt (dt_X7_cells ((va_up s0.1 6 ((s0.1 6) + 4)), s0.2.1, s0.2.2.1, s0.2.2.2))) (fun r_1 _ => (xf_b2 (F := fun k => wp_X7_readsNumber k ((va_up s0.1 6 ((s0.1 6) + 4)), s0.2.1, s0.2.2.1, s0.2.2.2) (0 : Int32) (r_1 - 1)) (fx_X7_readsNumber ((va_up s0.1 6 ((s0.1 6) + 4)), s0.2.1, s0.2.2.1, s0.2.2.2) (0 : Int32) (r_1 - 1)) (fun r_3 u_4 j_u_4 => have i_u_4 := j_u_4.trans rfl; (xf_n (xf_b2 (F := fun k => wp_X7_readsNumber k ((va_up u_4.1 12 (u_4.1 8)), u_4.2.1, u_4.2.2.1, u_4.2.2.2) (0 : Int32) (9 : Int32)) (fx_X7_readsNumber ((va_up u_4.1 12 (u_4.1 8)), u_4.2.1, u_4.2.2.1, u_4.2.2.2) (0 : Int32) (9 : Int32)) (fun r_6 u_7 j_u_7 => have i_u_7 := j_u_7.trans i_u_4; (xf_c (xf_r i_u_7)))) (xf_r i_u_4))))))
set_option maxHeartbeats 4000000 in
theorem fx_X7_readsPart (s0 : Md) : xf (fun P : (Int32 × Md) → Prop => wp_X7_readsPart (fun a0 a1 => P (a0, a1)) s0) (fun o => o.2.2.2.2 2 = s0.2.2.2 2) := by
  unfold wp_X7_readsPart
  exact (xf_b2 (F := fun k => wp_X7_isWord k s0 2) (fx_X7_isWord s0 2) (fun r_1 u_2 j_u_2 => have i_u_2 := j_u_2.trans rfl; (xf_p (xf_b2 (F := fun k => wp_X7_isWord k u_2 3) (fx_X7_isWord u_2 3) (fun r_4 u_5 j_u_5 => have i_u_5 := j_u_5.trans i_u_2; (xf_n (xf_b1 (F := fun k => wp_X7_drums k u_5) (xf_dt (dt_X7_drums u_5)) (fun r_7 _ => (xf_n (xf_b2 (F := fun k => wp_X7_isWord k u_5 3) (fx_X7_isWord u_5 3) (fun r_10 u_11 j_u_11 => have i_u_11 := j_u_11.trans i_u_5; (xf_p (xf_b2 (F := fun k => wp_X7_isWord k u_11 4) (fx_X7_isWord u_11 4) (fun r_13 u_14 j_u_14 => have i_u_14 := j_u_14.trans i_u_11; (xf_p (xf_b2 (F := fun k => wp_X7_isWord k u_14 5) (fx_X7_isWord u_14 5) (fun r_16 u_17 j_u_17 => have i_u_17 := j_u_17.trans i_u_14; (xf_p (xf_b2 (F := fun k => wp_X7_readsLose k u_17) (fx_X7_readsLose u_17) (fun r_19 u_20 j_u_20 => have i_u_20 := j_u_20.trans i_u_17; (xf_n (xf_b1 (F := fun k => wp_X7_sets k u_20 (u_20.1 12) (4 : Int32) (Int32.toInt64 (u_20.1 8))) (fx_X7_sets u_20 (u_20.1 12) (4 : Int32) (Int32.toInt64 (u_20.1 8))) (fun u_23 j_u_23 => have i_u_23 := j_u_23.trans i_u_20; (xf_r i_u_23))) (xf_r i_u_20)))) (xf_b2 (F := fun k => wp_X7_readsRow k u_17) (fx_X7_readsRow u_17) (fun r_24 u_25 j_u_25 => have i_u_25 := j_u_25.trans i_u_17; (xf_c (xf_r i_u_25))))))) (xf_b2 (F := fun k => wp_X7_readsWorn k u_14) (fx_X7_readsWorn u_14) (fun r_27 u_28 j_u_28 => have i_u_28 := j_u_28.trans i_u_14; (xf_c (xf_r i_u_28))))))) (xf_b2 (F := fun k => wp_X7_readsCells k u_11) (fx_X7_readsCells u_11) (fun r_30 u_31 j_u_31 => have i_u_31 := j_u_31.trans i_u_11; (xf_c (xf_r i_u_31))))))) (xf_b2 (F := fun k => wp_X7_fails k u_5 (3 : Int32) (u_5.1 6)) (fx_X7_fails u_5 (3 : Int32) (u_5.1 6)) (fun r_33 u_34 j_u_34 => have i_u_34 := j_u_34.trans i_u_5; (xf_c (xf_r i_u_34))))))) (xf_b2 (F := fun k => wp_X7_isWord k u_5 4) (fx_X7_isWord u_5 4) (fun r_36 u_37 j_u_37 => have i_u_37 := j_u_37.trans i_u_5; (xf_n (xf_b1 (F := fun k => wp_X7_drums k u_37) (xf_dt (dt_X7_drums u_37)) (fun r_39 _ => (xf_n (xf_b2 (F := fun k => wp_X7_isWord k u_37 3) (fx_X7_isWord u_37 3) (fun r_42 u_43 j_u_43 => have i_u_43 := j_u_43.trans i_u_37; (xf_p (xf_b2 (F := fun k => wp_X7_isWord k u_43 4) (fx_X7_isWord u_43 4) (fun r_45 u_46 j_u_46 => have i_u_46 := j_u_46.trans i_u_43; (xf_p (xf_b2 (F := fun k => wp_X7_isWord k u_46 5) (fx_X7_isWord u_46 5) (fun r_48 u_49 j_u_49 => have i_u_49 := j_u_49.trans i_u_46; (xf_p (xf_b2 (F := fun k => wp_X7_readsLose k u_49) (fx_X7_readsLose u_49) (fun r_51 u_52 j_u_52 => have i_u_52 := j_u_52.trans i_u_49; (xf_n (xf_b1 (F := fun k => wp_X7_sets k u_52 (u_52.1 12) (4 : Int32) (Int32.toInt64 (u_52.1 8))) (fx_X7_sets u_52 (u_52.1 12) (4 : Int32) (Int32.toInt64 (u_52.1 8))) (fun u_55 j_u_55 => have i_u_55 := j_u_55.trans i_u_52; (xf_r i_u_55))) (xf_r i_u_52)))) (xf_b2 (F := fun k => wp_X7_readsRow k u_49) (fx_X7_readsRow u_49) (fun r_56 u_57 j_u_57 => have i_u_57 := j_u_57.trans i_u_49; (xf_c (xf_r i_u_57))))))) (xf_b2 (F := fun k => wp_X7_readsWorn k u_46) (fx_X7_readsWorn u_46) (fun r_59 u_60 j_u_60 => have i_u_60 := j_u_60.trans i_u_46; (xf_c (xf_r i_u_60))))))) (xf_b2 (F := fun k => wp_X7_readsCells k u_43) (fx_X7_readsCells u_43) (fun r_62 u_63 j_u_63 => have i_u_63 := j_u_63.trans i_u_43; (xf_c (xf_r i_u_63))))))) (xf_b2 (F := fun k => wp_X7_fails k u_37 (3 : Int32) (u_37.1 6)) (fx_X7_fails u_37 (3 : Int32) (u_37.1 6)) (fun r_65 u_66 j_u_66 => have i_u_66 := j_u_66.trans i_u_37; (xf_c (xf_r i_u_66))))))) (xf_b2 (F := fun k => wp_X7_isWord k u_37 5) (fx_X7_isWord u_37 5) (fun r_68 u_69 j_u_69 => have i_u_69 := j_u_69.trans i_u_37; (xf_n (xf_b1 (F := fun k => wp_X7_drums k u_69) (xf_dt (dt_X7_drums u_69)) (fun r_71 _ => (xf_n (xf_b2 (F := fun k => wp_X7_isWord k u_69 3) (fx_X7_isWord u_69 3) (fun r_74 u_75 j_u_75 => have i_u_75 := j_u_75.trans i_u_69; (xf_p (xf_b2 (F := fun k => wp_X7_isWord k u_75 4) (fx_X7_isWord u_75 4) (fun r_77 u_78 j_u_78 => have i_u_78 := j_u_78.trans i_u_75; (xf_p (xf_b2 (F := fun k => wp_X7_isWord k u_78 5) (fx_X7_isWord u_78 5) (fun r_80 u_81 j_u_81 => have i_u_81 := j_u_81.trans i_u_78; (xf_p (xf_b2 (F := fun k => wp_X7_readsLose k u_81) (fx_X7_readsLose u_81) (fun r_83 u_84 j_u_84 => have i_u_84 := j_u_84.trans i_u_81; (xf_n (xf_b1 (F := fun k => wp_X7_sets k u_84 (u_84.1 12) (4 : Int32) (Int32.toInt64 (u_84.1 8))) (fx_X7_sets u_84 (u_84.1 12) (4 : Int32) (Int32.toInt64 (u_84.1 8))) (fun u_87 j_u_87 => have i_u_87 := j_u_87.trans i_u_84; (xf_r i_u_87))) (xf_r i_u_84)))) (xf_b2 (F := fun k => wp_X7_readsRow k u_81) (fx_X7_readsRow u_81) (fun r_88 u_89 j_u_89 => have i_u_89 := j_u_89.trans i_u_81; (xf_c (xf_r i_u_89))))))) (xf_b2 (F := fun k => wp_X7_readsWorn k u_78) (fx_X7_readsWorn u_78) (fun r_91 u_92 j_u_92 => have i_u_92 := j_u_92.trans i_u_78; (xf_c (xf_r i_u_92))))))) (xf_b2 (F := fun k => wp_X7_readsCells k u_75) (fx_X7_readsCells u_75) (fun r_94 u_95 j_u_95 => have i_u_95 := j_u_95.trans i_u_75; (xf_c (xf_r i_u_95))))))) (xf_b2 (F := fun k => wp_X7_fails k u_69 (3 : Int32) (u_69.1 6)) (fx_X7_fails u_69 (3 : Int32) (u_69.1 6)) (fun r_97 u_98 j_u_98 => have i_u_98 := j_u_98.trans i_u_69; (xf_c (xf_r i_u_98))))))) (xf_b2 (F := fun k => wp_X7_isWord k u_69 6) (fx_X7_isWord u_69 6) (fun r_100 u_101 j_u_101 => have i_u_101 := j_u_101.trans i_u_69; (xf_p (xf_b2 (F := fun k => wp_X7_fails k u_101 (1 : Int32) (u_101.1 6)) (fx_X7_fails u_101 (1 : Int32) (u_101.1 6)) (fun r_103 u_104 j_u_104 => have i_u_104 := j_u_104.trans i_u_101; (xf_c (xf_r i_u_104)))) (xf_b1 (F := fun k => wp_X7_drums k u_101) (xf_dt (dt_X7_drums u_101)) (fun r_106 _ => (xf_n (xf_b2 (F := fun k => wp_X7_isWord k u_101 3) (fx_X7_isWord u_101 3) (fun r_109 u_110 j_u_110 => have i_u_110 := j_u_110.trans i_u_101; (xf_p (xf_b2 (F := fun k => wp_X7_isWord k u_110 4) (fx_X7_isWord u_110 4) (fun r_112 u_113 j_u_113 => have i_u_113 := j_u_113.trans i_u_110; (xf_p (xf_b2 (F := fun k => wp_X7_isWord k u_113 5) (fx_X7_isWord u_113 5) (fun r_115 u_116 j_u_116 => have i_u_116 := j_u_116.trans i_u_113; (xf_p (xf_b2 (F := fun k => wp_X7_readsLose k u_116) (fx_X7_readsLose u_116) (fun r_118 u_119 j_u_119 => have i_u_119 := j_u_119.trans i_u_116; (xf_n (xf_b1 (F := fun k => wp_X7_sets k u_119 (u_119.1 12) (4 : Int32) (Int32.toInt64 (u_119.1 8))) (fx_X7_sets u_119 (u_119.1 12) (4 : Int32) (Int32.toInt64 (u_119.1 8))) (fun u_122 j_u_122 => have i_u_122 := j_u_122.trans i_u_119; (xf_r i_u_122))) (xf_r i_u_119)))) (xf_b2 (F := fun k => wp_X7_readsRow k u_116) (fx_X7_readsRow u_116) (fun r_123 u_124 j_u_124 => have i_u_124 := j_u_124.trans i_u_116; (xf_c (xf_r i_u_124))))))) (xf_b2 (F := fun k => wp_X7_readsWorn k u_113) (fx_X7_readsWorn u_113) (fun r_126 u_127 j_u_127 => have i_u_127 := j_u_127.trans i_u_113; (xf_c (xf_r i_u_127))))))) (xf_b2 (F := fun k => wp_X7_readsCells k u_110) (fx_X7_readsCells u_110) (fun r_129 u_130 j_u_130 => have i_u_130 := j_u_130.trans i_u_110; (xf_c (xf_r i_u_130))))))) (xf_b2 (F := fun k => wp_X7_fails k u_101 (3 : Int32) (u_101.1 6)) (fx_X7_fails u_101 (3 : Int32) (u_101.1 6)) (fun r_132 u_133 j_u_133 => have i_u_133 := j_u_133.trans i_u_101; (xf_c (xf_r i_u_133))))))))))))))))))) (xf_b2 (F := fun k => wp_X7_readsDrum k u_2) (fx_X7_readsDrum u_2) (fun r_135 u_136 j_u_136 => have i_u_136 := j_u_136.trans i_u_2; (xf_c (xf_r i_u_136)))))))
set_option maxHeartbeats 4000000 in
theorem fl_X7_readsBoard_L116  {O : Type} {I : O → Prop} {c0 : Nat → Int32}  {G_post : Int32 → Md → (O → Prop) → Prop} {G_e147 : Md → (O → Prop) → Prop} {G_e149 : Md → (O → Prop) → Prop} (h_post : ∀ (v0 : Int32) (v1 : Md), v1.2.2.2 2 = c0 → xf (G_post v0 v1) I) (h_e147 : ∀ (v0 : Md), v0.2.2.2 2 = c0 → xf (G_e147 v0) I) (h_e149 : ∀ (v0 : Md), v0.2.2.2 2 = c0 → xf (G_e149 v0) I) : ∀ (n : Nat) (t0 : Md), t0.2.2.2 2 = c0 → xf (fun P : O → Prop => wp_X7_readsBoard_L116 (fun v0 v1 => G_post v0 v1 P) (fun v0 => G_e147 v0 P) (fun v0 => G_e149 v0 P) n t0) I := by
  intro n
  induction n with
  | zero => exact fun _ _ => xf_F
  | succ n116 ih =>
    intro t0 i_t0
    unfold wp_X7_readsBoard_L116
    exact (xf_b2 (F := fun k => wp_X7_nextByte k t0) (fx_X7_nextByte t0) (fun r_20 u_21 j_u_21 => have i_u_21 := j_u_21.trans i_t0; (xf_n (h_e149 u_21 i_u_21) (xf_b2 (F := fun k => wp_X7_nextByte k ((va_up u_21.1 6 ((u_21.1 6) + 1)), u_21.2.1, u_21.2.2.1, u_21.2.2.2)) (fx_X7_nextByte ((va_up u_21.1 6 ((u_21.1 6) + 1)), u_21.2.1, u_21.2.2.1, u_21.2.2.2)) (fun r_23 u_24 j_u_24 => have i_u_24 := j_u_24.trans i_u_21; (xf_b2 (F := fun k => wp_X7_readsPart k u_24) (fx_X7_readsPart u_24) (fun r_25 u_26 j_u_26 => have i_u_26 := j_u_26.trans i_u_24; (xf_n (ih u_26 i_u_26) (h_e147 u_26 i_u_26)))))))))
set_option maxHeartbeats 4000000 in
theorem fl_X7_readsBoard_L116b  {O : Type} {I : O → Prop} {c0 : Nat → Int32}  {G_post : Int32 → Md → (O → Prop) → Prop} {G_e147 : Md → (O → Prop) → Prop} {G_e149 : Md → (O → Prop) → Prop} (h_post : ∀ (v0 : Int32) (v1 : Md), v1.2.2.2 2 = c0 → xf (G_post v0 v1) I) (h_e147 : ∀ (v0 : Md), v0.2.2.2 2 = c0 → xf (G_e147 v0) I) (h_e149 : ∀ (v0 : Md), v0.2.2.2 2 = c0 → xf (G_e149 v0) I) : ∀ (n : Nat) (t0 : Md), t0.2.2.2 2 = c0 → xf (fun P : O → Prop => wp_X7_readsBoard_L116b (fun v0 v1 => G_post v0 v1 P) (fun v0 => G_e147 v0 P) (fun v0 => G_e149 v0 P) n t0) I := by
  intro n
  induction n with
  | zero => exact fun _ _ => xf_F
  | succ n116 ih =>
    intro t0 i_t0
    unfold wp_X7_readsBoard_L116b
    exact (xf_b2 (F := fun k => wp_X7_nextByte k t0) (fx_X7_nextByte t0) (fun r_52 u_53 j_u_53 => have i_u_53 := j_u_53.trans i_t0; (xf_n (h_e149 u_53 i_u_53) (xf_b2 (F := fun k => wp_X7_nextByte k ((va_up u_53.1 6 ((u_53.1 6) + 1)), u_53.2.1, u_53.2.2.1, u_53.2.2.2)) (fx_X7_nextByte ((va_up u_53.1 6 ((u_53.1 6) + 1)), u_53.2.1, u_53.2.2.1, u_53.2.2.2)) (fun r_55 u_56 j_u_56 => have i_u_56 := j_u_56.trans i_u_53; (xf_b2 (F := fun k => wp_X7_readsPart k u_56) (fx_X7_readsPart u_56) (fun r_57 u_58 j_u_58 => have i_u_58 := j_u_58.trans i_u_56; (xf_n (ih u_58 i_u_58) (h_e147 u_58 i_u_58)))))))))
set_option maxHeartbeats 4000000 in
theorem fx_X7_readsBoard (s0 : Md) : xf (fun P : (Int32 × Md) → Prop => wp_X7_readsBoard (fun a0 a1 => P (a0, a1)) s0) (fun o => o.2.2.2.2 2 = s0.2.2.2 2) := by
  unfold wp_X7_readsBoard
  exact (xf_b2 (F := fun k => wp_X7_mustWord k ((va_up s0.1 6 0), s0.2.1, s0.2.2.1, s0.2.2.2) 0) (fx_X7_mustWord ((va_up s0.1 6 0), s0.2.1, s0.2.2.1, s0.2.2.2) 0) (fun r_1 u_2 j_u_2 => have i_u_2 := j_u_2.trans rfl; (xf_p (xf_r i_u_2) (xf_b2 (F := fun k => wp_X7_readsNumber k u_2 (1 : Int32) (6 : Int32)) (fx_X7_readsNumber u_2 (1 : Int32) (6 : Int32)) (fun r_4 u_5 j_u_5 => have i_u_5 := j_u_5.trans i_u_2; (xf_n (xf_b1 (F := fun k => wp_X7_rows k (u_5.1, u_5.2.1, (va_up u_5.2.2.1 0 (vp_updL (u_5.2.2.1 0) (Int32.toNatClampNeg 0) (Int32.toInt64 (u_5.1 8)))), u_5.2.2.2)) (xf_dt (dt_X7_rows (u_5.1, u_5.2.1, (va_up u_5.2.2.1 0 (vp_updL (u_5.2.2.1 0) (Int32.toNatClampNeg 0) (Int32.toInt64 (u_5.1 8)))), u_5.2.2.2))) (fun r_7 _ => (xf_c (xf_p (xf_b2 (F := fun k => wp_X7_readsNumber k (u_5.1, u_5.2.1, (va_up u_5.2.2.1 0 (vp_updL (u_5.2.2.1 0) (Int32.toNatClampNeg 0) (Int32.toInt64 (u_5.1 8)))), u_5.2.2.2) (1 : Int32) (10 : Int32)) (fx_X7_readsNumber (u_5.1, u_5.2.1, (va_up u_5.2.2.1 0 (vp_updL (u_5.2.2.1 0) (Int32.toNatClampNeg 0) (Int32.toInt64 (u_5.1 8)))), u_5.2.2.2) (1 : Int32) (10 : Int32)) (fun r_11 u_12 j_u_12 => have i_u_12 := j_u_12.trans i_u_5; (xf_n (xf_b2 (F := fun k => wp_X7_mustWord k (u_12.1, u_12.2.1, (va_up u_12.2.2.1 0 (vp_updL (u_12.2.2.1 0) (Int32.toNatClampNeg 1) (Int32.toInt64 (u_12.1 8)))), u_12.2.2.2) 1) (fx_X7_mustWord (u_12.1, u_12.2.1, (va_up u_12.2.2.1 0 (vp_updL (u_12.2.2.1 0) (Int32.toNatClampNeg 1) (Int32.toInt64 (u_12.1 8)))), u_12.2.2.2) 1) (fun r_14 u_15 j_u_15 => have i_u_15 := j_u_15.trans i_u_12; (xf_p (xf_r i_u_15) (xf_b2 (F := fun k => wp_X7_readsNumber k u_15 (1 : Int32) (99 : Int32)) (fx_X7_readsNumber u_15 (1 : Int32) (99 : Int32)) (fun r_17 u_18 j_u_18 => have i_u_18 := j_u_18.trans i_u_15; (xf_n (xf_x (fun n116 => (fl_X7_readsBoard_L116  (fun v0 v1 i_v1 => (xf_r i_v1)) (fun t0 i_t0 => (xf_r i_t0)) (fun t0 i_t0 => (xf_b2 (F := fun k => wp_X7_nextByte k t0) (fx_X7_nextByte t0) (fun r_28 u_29 j_u_29 => have i_u_29 := j_u_29.trans i_t0; (xf_p (xf_b1 (F := fun k => wp_X7_drums k u_29) (xf_dt (dt_X7_drums u_29)) (fun r_31 _ => (xf_p (xf_r i_u_29) (xf_b2 (F := fun k => wp_X7_fails k u_29 (4 : Int32) (u_29.1 5)) (fx_X7_fails u_29 (4 : Int32) (u_29.1 5)) (fun r_34 u_35 j_u_35 => have i_u_35 := j_u_35.trans i_u_29; (xf_p (xf_r i_u_35) (xf_r i_u_35))))))) (xf_b2 (F := fun k => wp_X7_fails k u_29 (1 : Int32) (u_29.1 6)) (fx_X7_fails u_29 (1 : Int32) (u_29.1 6)) (fun r_37 u_38 j_u_38 => have i_u_38 := j_u_38.trans i_u_29; (xf_c (xf_r i_u_38)))))))) n116 (u_18.1, u_18.2.1, (va_up u_18.2.2.1 0 (vp_updL (u_18.2.2.1 0) (Int32.toNatClampNeg 2) (Int32.toInt64 (u_18.1 8)))), u_18.2.2.2) i_u_18))) (xf_r i_u_18))))))) (xf_r i_u_12)))) (xf_b1 (F := fun k => wp_X7_rows k (u_5.1, u_5.2.1, (va_up u_5.2.2.1 0 (vp_updL (u_5.2.2.1 0) (Int32.toNatClampNeg 0) (Int32.toInt64 (u_5.1 8)))), u_5.2.2.2)) (xf_dt (dt_X7_rows (u_5.1, u_5.2.1, (va_up u_5.2.2.1 0 (vp_updL (u_5.2.2.1 0) (Int32.toNatClampNeg 0) (Int32.toInt64 (u_5.1 8)))), u_5.2.2.2))) (fun r_40 _ => (xf_c (xf_b2 (F := fun k => wp_X7_readsNumber k (u_5.1, u_5.2.1, (va_up u_5.2.2.1 0 (vp_updL (u_5.2.2.1 0) (Int32.toNatClampNeg 0) (Int32.toInt64 (u_5.1 8)))), u_5.2.2.2) (1 : Int32) (40 / r_40)) (fx_X7_readsNumber (u_5.1, u_5.2.1, (va_up u_5.2.2.1 0 (vp_updL (u_5.2.2.1 0) (Int32.toNatClampNeg 0) (Int32.toInt64 (u_5.1 8)))), u_5.2.2.2) (1 : Int32) (40 / r_40)) (fun r_43 u_44 j_u_44 => have i_u_44 := j_u_44.trans i_u_5; (xf_n (xf_b2 (F := fun k => wp_X7_mustWord k (u_44.1, u_44.2.1, (va_up u_44.2.2.1 0 (vp_updL (u_44.2.2.1 0) (Int32.toNatClampNeg 1) (Int32.toInt64 (u_44.1 8)))), u_44.2.2.2) 1) (fx_X7_mustWord (u_44.1, u_44.2.1, (va_up u_44.2.2.1 0 (vp_updL (u_44.2.2.1 0) (Int32.toNatClampNeg 1) (Int32.toInt64 (u_44.1 8)))), u_44.2.2.2) 1) (fun r_46 u_47 j_u_47 => have i_u_47 := j_u_47.trans i_u_44; (xf_p (xf_r i_u_47) (xf_b2 (F := fun k => wp_X7_readsNumber k u_47 (1 : Int32) (99 : Int32)) (fx_X7_readsNumber u_47 (1 : Int32) (99 : Int32)) (fun r_49 u_50 j_u_50 => have i_u_50 := j_u_50.trans i_u_47; (xf_n (xf_x (fun n116 => (fl_X7_readsBoard_L116b  (fun v0 v1 i_v1 => (xf_r i_v1)) (fun t0 i_t0 => (xf_r i_t0)) (fun t0 i_t0 => (xf_b2 (F := fun k => wp_X7_nextByte k t0) (fx_X7_nextByte t0) (fun r_60 u_61 j_u_61 => have i_u_61 := j_u_61.trans i_t0; (xf_p (xf_b1 (F := fun k => wp_X7_drums k u_61) (xf_dt (dt_X7_drums u_61)) (fun r_63 _ => (xf_p (xf_r i_u_61) (xf_b2 (F := fun k => wp_X7_fails k u_61 (4 : Int32) (u_61.1 5)) (fx_X7_fails u_61 (4 : Int32) (u_61.1 5)) (fun r_66 u_67 j_u_67 => have i_u_67 := j_u_67.trans i_u_61; (xf_p (xf_r i_u_67) (xf_r i_u_67))))))) (xf_b2 (F := fun k => wp_X7_fails k u_61 (1 : Int32) (u_61.1 6)) (fx_X7_fails u_61 (1 : Int32) (u_61.1 6)) (fun r_69 u_70 j_u_70 => have i_u_70 := j_u_70.trans i_u_61; (xf_c (xf_r i_u_70)))))))) n116 (u_50.1, u_50.2.1, (va_up u_50.2.2.1 0 (vp_updL (u_50.2.2.1 0) (Int32.toNatClampNeg 2) (Int32.toInt64 (u_50.1 8)))), u_50.2.2.2) i_u_50))) (xf_r i_u_50))))))) (xf_r i_u_44))))))))))) (xf_r i_u_5)))))))
set_option maxHeartbeats 4000000 in
theorem fl_X7_tell_L6  {O : Type} {I : O → Prop} {c0 : Nat → Int32}  {G_post : Int32 → Md → (O → Prop) → Prop} {G_e26 : Md → Int32 → (O → Prop) → Prop} (h_post : ∀ (v0 : Int32) (v1 : Md), v1.2.2.2 2 = c0 → xf (G_post v0 v1) I) (h_e26 : ∀ (v0 : Md) (v1 : Int32), v0.2.2.2 2 = c0 → xf (G_e26 v0 v1) I) : ∀ (n : Nat) (t0 : Md) (z1 : Int32), t0.2.2.2 2 = c0 → xf (fun P : O → Prop => wp_X7_tell_L6 (fun v0 v1 => G_post v0 v1 P) (fun v0 v1 => G_e26 v0 v1 P) n t0 z1) I := by
  intro n
  induction n with
  | zero => exact fun _ _ _ => xf_F
  | succ n6 ih =>
    intro t0 z1 i_t0
    unfold wp_X7_tell_L6
    exact (xf_p (h_e26 t0 z1 i_t0) (xf_c (ih (t0.1, t0.2.1, (va_up t0.2.2.1 0 (vp_updL (t0.2.2.1 0) (Int32.toNatClampNeg z1) 0)), t0.2.2.2) (z1 + 1) i_t0)))
set_option maxHeartbeats 4000000 in
theorem fx_X7_tell (s0 : Md) : xf (fun P : (Int32 × Md) → Prop => wp_X7_tell (fun a0 a1 => P (a0, a1)) s0) (fun o => o.2.2.2.2 2 = s0.2.2.2 2) := by
  unfold wp_X7_tell
  exact (xf_b1 (F := fun k => wp_X7_putsAside k s0) (fx_X7_putsAside s0) (fun u_2 j_u_2 => have i_u_2 := j_u_2.trans rfl; (xf_x (fun n6 => (fl_X7_tell_L6  (fun v0 v1 i_v1 => (xf_r i_v1)) (fun t0 z1 i_t0 => (xf_b2 (F := fun k => wp_X7_readsBoard k t0) (fx_X7_readsBoard t0) (fun r_5 u_6 j_u_6 => have i_u_6 := j_u_6.trans i_t0; (xf_n (xf_b1 (F := fun k => wp_X7_drums k ((va_up (va_up u_6.1 0 0) 5 0), u_6.2.1, u_6.2.2.1, u_6.2.2.2)) (xf_dt (dt_X7_drums ((va_up (va_up u_6.1 0 0) 5 0), u_6.2.1, u_6.2.2.1, u_6.2.2.2))) (fun r_8 _ => (xf_r i_u_6))) (xf_b1 (F := fun k => wp_X7_takesBack k ((va_up u_6.1 5 0), u_6.2.1, u_6.2.2.1, u_6.2.2.2)) (fx_X7_takesBack ((va_up u_6.1 5 0), u_6.2.1, u_6.2.2.1, u_6.2.2.2)) (fun u_11 j_u_11 => have i_u_11 := j_u_11.trans i_u_6; (xf_r i_u_11))))))) n6 u_2 0 i_u_2)))))
set_option maxHeartbeats 4000000 in
theorem fx_X7_isDone (s0 : Md) (x1 : Int32) : xf (fun P : (Int32 × Md) → Prop => wp_X7_isDone (fun a0 a1 => P (a0, a1)) s0 x1) (fun o => o.2.2.2.2 2 = s0.2.2.2 2) := by
  unfold wp_X7_isDone
  exact (xf_p (xf_r rfl) (xf_n (xf_r rfl) (xf_r rfl)))
set_option maxHeartbeats 4000000 in
theorem fx_X7_goesRow (s0 : Md) (x1 : Int32) : xf (fun P : (Int32 × Md) → Prop => wp_X7_goesRow (fun a0 a1 => P (a0, a1)) s0 x1) (fun o => o.2.2.2.2 2 = s0.2.2.2 2) := by
  unfold wp_X7_goesRow
  exact (xf_b1 (F := fun k => wp_X7_rows k ((va_up s0.1 6 ((s0.1 6) + 3)), s0.2.1, s0.2.2.1, s0.2.2.2)) (xf_dt (dt_X7_rows ((va_up s0.1 6 ((s0.1 6) + 3)), s0.2.1, s0.2.2.1, s0.2.2.2))) (fun r_1 _ => (xf_b2 (F := fun k => wp_X7_readsNumber k ((va_up s0.1 6 ((s0.1 6) + 3)), s0.2.1, s0.2.2.1, s0.2.2.2) (0 : Int32) (r_1 - 1)) (fx_X7_readsNumber ((va_up s0.1 6 ((s0.1 6) + 3)), s0.2.1, s0.2.2.1, s0.2.2.2) (0 : Int32) (r_1 - 1)) (fun r_3 u_4 j_u_4 => have i_u_4 := j_u_4.trans rfl; (xf_n (xf_b1 (F := fun k => wp_X7_wide k u_4) (xf_dt (dt_X7_wide u_4)) (fun r_6 _ => (xf_b2 (F := fun k => wp_X7_readsQuoted k u_4 (0 : Int32) r_6) (fx_X7_readsQuoted u_4 (0 : Int32) r_6) (fun r_8 u_9 j_u_9 => have i_u_9 := j_u_9.trans i_u_4; (xf_n (xf_b2 (F := fun k => wp_X7_isDone k u_9 x1) (fx_X7_isDone u_9 x1) (fun r_11 u_12 j_u_12 => have i_u_12 := j_u_12.trans i_u_9; (xf_p (xf_r i_u_12) (xf_b2 (F := fun k => wp_X7_wantsSigns k u_12 (u_4.1 8) (u_12.1 10) (u_12.1 11) (1 : Int32)) (fx_X7_wantsSigns u_12 (u_4.1 8) (u_12.1 10) (u_12.1 11) (1 : Int32)) (fun r_14 u_15 j_u_15 => have i_u_15 := j_u_15.trans i_u_12; (xf_r i_u_15)))))) (xf_r i_u_9)))))) (xf_r i_u_4))))))
set_option maxHeartbeats 4000000 in
theorem fx_X7_goesScroll (s0 : Md) (x1 : Int32) : xf (fun P : (Int32 × Md) → Prop => wp_X7_goesScroll (fun a0 a1 => P (a0, a1)) s0 x1) (fun o => o.2.2.2.2 2 = s0.2.2.2 2) := by
  unfold wp_X7_goesScroll
  exact (xf_b1 (F := fun k => wp_X7_wide k ((va_up s0.1 6 ((s0.1 6) + 6)), s0.2.1, s0.2.2.1, s0.2.2.2)) (xf_dt (dt_X7_wide ((va_up s0.1 6 ((s0.1 6) + 6)), s0.2.1, s0.2.2.1, s0.2.2.2))) (fun r_1 _ => (xf_b2 (F := fun k => wp_X7_readsQuoted k ((va_up s0.1 6 ((s0.1 6) + 6)), s0.2.1, s0.2.2.1, s0.2.2.2) (0 : Int32) r_1) (fx_X7_readsQuoted ((va_up s0.1 6 ((s0.1 6) + 6)), s0.2.1, s0.2.2.1, s0.2.2.2) (0 : Int32) r_1) (fun r_3 u_4 j_u_4 => have i_u_4 := j_u_4.trans rfl; (xf_n (xf_b2 (F := fun k => wp_X7_isDone k u_4 x1) (fx_X7_isDone u_4 x1) (fun r_6 u_7 j_u_7 => have i_u_7 := j_u_7.trans i_u_4; (xf_p (xf_r i_u_7) (xf_b2 (F := fun k => wp_X7_scrolls k u_7 (u_7.1 10) (u_7.1 11)) (fx_X7_scrolls u_7 (u_7.1 10) (u_7.1 11)) (fun r_9 u_10 j_u_10 => have i_u_10 := j_u_10.trans i_u_7; (xf_r i_u_10)))))) (xf_r i_u_4))))))
set_option maxHeartbeats 4000000 in
theorem fl_X7_goesHome_L38  {O : Type} {I : O → Prop} {c0 : Nat → Int32}  {G_post : Int32 → Md → (O → Prop) → Prop} {G_e69 : Md → Int32 → Int32 → (O → Prop) → Prop} (h_post : ∀ (v0 : Int32) (v1 : Md), v1.2.2.2 2 = c0 → xf (G_post v0 v1) I) (h_e69 : ∀ (v0 : Md) (v1 : Int32) (v2 : Int32), v0.2.2.2 2 = c0 → xf (G_e69 v0 v1 v2) I) : ∀ (n : Nat) (t0 : Md) (z1 : Int32) (z2 : Int32), t0.2.2.2 2 = c0 → xf (fun P : O → Prop => wp_X7_goesHome_L38 (fun v0 v1 => G_post v0 v1 P) (fun v0 v1 v2 => G_e69 v0 v1 v2 P) n t0 z1 z2) I := by
  intro n
  induction n with
  | zero => exact fun _ _ _ _ => xf_F
  | succ n38 ih =>
    intro t0 z1 z2 i_t0
    unfold wp_X7_goesHome_L38
    exact (xf_b1 (F := fun k => wp_X7_wide k t0) (xf_dt (dt_X7_wide t0)) (fun r_9 _ => (xf_p (h_e69 t0 z1 z2 i_t0) (xf_b1 (F := fun k => wp_X7_wide k t0) (xf_dt (dt_X7_wide t0)) (fun r_12 _ => (xf_b1 (F := fun k => wp_X7_wantsFlap k t0 ((r_12 * (t0.1 8)) + z2) (0 : Int32) (0 : Int32)) (fx_X7_wantsFlap t0 ((r_12 * (t0.1 8)) + z2) (0 : Int32) (0 : Int32)) (fun u_15 j_u_15 => have i_u_15 := j_u_15.trans i_t0; (ih u_15 z1 (z2 + 1) i_u_15))))))))
set_option maxHeartbeats 4000000 in
theorem fx_X7_goesHome (s0 : Md) (x1 : Int32) : xf (fun P : (Int32 × Md) → Prop => wp_X7_goesHome (fun a0 a1 => P (a0, a1)) s0 x1) (fun o => o.2.2.2.2 2 = s0.2.2.2 2) := by
  unfold wp_X7_goesHome
  exact (xf_b1 (F := fun k => wp_X7_rows k ((va_up s0.1 6 ((s0.1 6) + 4)), s0.2.1, s0.2.2.1, s0.2.2.2)) (xf_dt (dt_X7_rows ((va_up s0.1 6 ((s0.1 6) + 4)), s0.2.1, s0.2.2.1, s0.2.2.2))) (fun r_1 _ => (xf_b2 (F := fun k => wp_X7_readsNumber k ((va_up s0.1 6 ((s0.1 6) + 4)), s0.2.1, s0.2.2.1, s0.2.2.2) (0 : Int32) (r_1 - 1)) (fx_X7_readsNumber ((va_up s0.1 6 ((s0.1 6) + 4)), s0.2.1, s0.2.2.1, s0.2.2.2) (0 : Int32) (r_1 - 1)) (fun r_3 u_4 j_u_4 => have i_u_4 := j_u_4.trans rfl; (xf_n (xf_b2 (F := fun k => wp_X7_isDone k u_4 x1) (fx_X7_isDone u_4 x1) (fun r_6 u_7 j_u_7 => have i_u_7 := j_u_7.trans i_u_4; (xf_n (xf_x (fun n38 => (fl_X7_goesHome_L38  (fun v0 v1 i_v1 => (xf_r i_v1)) (fun t0 z1 z2 i_t0 => (xf_r i_t0)) n38 u_7 x1 0 i_u_7))) (xf_r i_u_7)))) (xf_r i_u_4))))))
set_option maxHeartbeats 4000000 in
theorem fl_X7_goesWait_L34  {O : Type} {I : O → Prop} {c0 : Nat → Int32}  {G_post : Int32 → Md → (O → Prop) → Prop} {G_e53 : Md → Int32 → Int32 → (O → Prop) → Prop} (h_post : ∀ (v0 : Int32) (v1 : Md), v1.2.2.2 2 = c0 → xf (G_post v0 v1) I) (h_e53 : ∀ (v0 : Md) (v1 : Int32) (v2 : Int32), v0.2.2.2 2 = c0 → xf (G_e53 v0 v1 v2) I) : ∀ (n : Nat) (t0 : Md) (z1 : Int32) (z2 : Int32), t0.2.2.2 2 = c0 → xf (fun P : O → Prop => wp_X7_goesWait_L34 (fun v0 v1 => G_post v0 v1 P) (fun v0 v1 v2 => G_e53 v0 v1 v2 P) n t0 z1 z2) I := by
  intro n
  induction n with
  | zero => exact fun _ _ _ _ => xf_F
  | succ n34 ih =>
    intro t0 z1 z2 i_t0
    unfold wp_X7_goesWait_L34
    exact (xf_p (h_e53 t0 z1 z2 i_t0) (xf_b2 (F := fun k => wp_X7_ticks k t0) (fx_X7_ticks t0) (fun r_8 u_9 j_u_9 => have i_u_9 := j_u_9.trans i_t0; (ih u_9 z1 (z2 + 1) i_u_9))))
set_option maxHeartbeats 4000000 in
theorem fx_X7_goesWait (s0 : Md) (x1 : Int32) : xf (fun P : (Int32 × Md) → Prop => wp_X7_goesWait (fun a0 a1 => P (a0, a1)) s0 x1) (fun o => o.2.2.2.2 2 = s0.2.2.2 2) := by
  unfold wp_X7_goesWait
  exact (xf_b2 (F := fun k => wp_X7_readsNumber k ((va_up s0.1 6 ((s0.1 6) + 4)), s0.2.1, s0.2.2.1, s0.2.2.2) (1 : Int32) (99 : Int32)) (fx_X7_readsNumber ((va_up s0.1 6 ((s0.1 6) + 4)), s0.2.1, s0.2.2.1, s0.2.2.2) (1 : Int32) (99 : Int32)) (fun r_1 u_2 j_u_2 => have i_u_2 := j_u_2.trans rfl; (xf_n (xf_b2 (F := fun k => wp_X7_isDone k u_2 x1) (fx_X7_isDone u_2 x1) (fun r_4 u_5 j_u_5 => have i_u_5 := j_u_5.trans i_u_2; (xf_n (xf_x (fun n34 => (fl_X7_goesWait_L34  (fun v0 v1 i_v1 => (xf_r i_v1)) (fun t0 z1 z2 i_t0 => (xf_r i_t0)) n34 u_5 x1 0 i_u_5))) (xf_r i_u_5)))) (xf_r i_u_2))))
set_option maxHeartbeats 4000000 in
theorem fx_X7_goesSettle (s0 : Md) (x1 : Int32) : xf (fun P : (Int32 × Md) → Prop => wp_X7_goesSettle (fun a0 a1 => P (a0, a1)) s0 x1) (fun o => o.2.2.2.2 2 = s0.2.2.2 2) := by
  unfold wp_X7_goesSettle
  exact (xf_b2 (F := fun k => wp_X7_isDone k ((va_up s0.1 6 ((s0.1 6) + 6)), s0.2.1, s0.2.2.1, s0.2.2.2) x1) (fx_X7_isDone ((va_up s0.1 6 ((s0.1 6) + 6)), s0.2.1, s0.2.2.1, s0.2.2.2) x1) (fun r_1 u_2 j_u_2 => have i_u_2 := j_u_2.trans rfl; (xf_p (xf_r i_u_2) (xf_b2 (F := fun k => wp_X7_settles k u_2) (fx_X7_settles u_2) (fun r_4 u_5 j_u_5 => have i_u_5 := j_u_5.trans i_u_2; (xf_r i_u_5))))))
set_option maxHeartbeats 4000000 in
theorem fx_X7_goesLose (s0 : Md) (x1 : Int32) : xf (fun P : (Int32 × Md) → Prop => wp_X7_goesLose (fun a0 a1 => P (a0, a1)) s0 x1) (fun o => o.2.2.2.2 2 = s0.2.2.2 2) := by
  unfold wp_X7_goesLose
  exact (xf_b2 (F := fun k => wp_X7_readsLose k s0) (fx_X7_readsLose s0) (fun r_1 u_2 j_u_2 => have i_u_2 := j_u_2.trans rfl; (xf_n (xf_b2 (F := fun k => wp_X7_isDone k u_2 x1) (fx_X7_isDone u_2 x1) (fun r_4 u_5 j_u_5 => have i_u_5 := j_u_5.trans i_u_2; (xf_p (xf_r i_u_5) (xf_b1 (F := fun k => wp_X7_sets k u_5 (u_5.1 12) (4 : Int32) (Int32.toInt64 (u_5.1 8))) (fx_X7_sets u_5 (u_5.1 12) (4 : Int32) (Int32.toInt64 (u_5.1 8))) (fun u_8 j_u_8 => have i_u_8 := j_u_8.trans i_u_5; (xf_r i_u_8)))))) (xf_r i_u_2))))
set_option maxHeartbeats 4000000 in
theorem fl_X7_goesTimes_1_L90  {O : Type} {I : O → Prop} {c0 : Nat → Int32}  {G_post : Int32 → Md → (O → Prop) → Prop} {G_e141 : Md → Int32 → Int32 → Int32 → Int32 → Int32 → (O → Prop) → Prop} (h_post : ∀ (v0 : Int32) (v1 : Md), v1.2.2.2 2 = c0 → xf (G_post v0 v1) I) (h_e141 : ∀ (v0 : Md) (v1 : Int32) (v2 : Int32) (v3 : Int32) (v4 : Int32) (v5 : Int32), v0.2.2.2 2 = c0 → xf (G_e141 v0 v1 v2 v3 v4 v5) I) : ∀ (n : Nat) (t0 : Md) (z1 : Int32) (z2 : Int32) (z3 : Int32) (z4 : Int32) (z5 : Int32), t0.2.2.2 2 = c0 → xf (fun P : O → Prop => wp_X7_goesTimes_1_L90 (fun v0 v1 => G_post v0 v1 P) (fun v0 v1 v2 v3 v4 v5 => G_e141 v0 v1 v2 v3 v4 v5 P) n t0 z1 z2 z3 z4 z5) I := by
  intro n
  induction n with
  | zero => exact fun _ _ _ _ _ _ _ => xf_F
  | succ n90 ih =>
    intro t0 z1 z2 z3 z4 z5 i_t0
    unfold wp_X7_goesTimes_1_L90
    exact (xf_p (xf_p xf_F (xf_p xf_F xf_F)) (xf_p (h_e141 t0 z1 z2 z3 z4 z5 i_t0) (xf_p (h_e141 t0 z1 z2 z3 z4 z5 i_t0) (xf_p xf_F (xf_p xf_F xf_F)))))
set_option maxHeartbeats 4000000 in
theorem fx_X7_goesTimes_1 (s0 : Md) (x1 : Int32) : xf (fun P : (Int32 × Md) → Prop => wp_X7_goesTimes_1 (fun a0 a1 => P (a0, a1)) s0 x1) (fun o => o.2.2.2.2 2 = s0.2.2.2 2) := by
  unfold wp_X7_goesTimes_1
  exact (xf_b2 (F := fun k => wp_X7_readsNumber k ((va_up s0.1 6 ((s0.1 6) + 5)), s0.2.1, s0.2.2.1, s0.2.2.2) (0 : Int32) (20 : Int32)) (fx_X7_readsNumber ((va_up s0.1 6 ((s0.1 6) + 5)), s0.2.1, s0.2.2.1, s0.2.2.2) (0 : Int32) (20 : Int32)) (fun r_1 u_2 j_u_2 => have i_u_2 := j_u_2.trans rfl; (xf_n (xf_b2 (F := fun k => wp_X7_nextByte k u_2) (fx_X7_nextByte u_2) (fun r_4 u_5 j_u_5 => have i_u_5 := j_u_5.trans i_u_2; (xf_n (xf_b2 (F := fun k => wp_X7_mustByte k u_5 (40 : Int32)) (fx_X7_mustByte u_5 (40 : Int32)) (fun r_7 u_8 j_u_8 => have i_u_8 := j_u_8.trans i_u_5; (xf_n (xf_b2 (F := fun k => wp_X7_isDone k u_8 x1) (fx_X7_isDone u_8 x1) (fun r_10 u_11 j_u_11 => have i_u_11 := j_u_11.trans i_u_8; (xf_x (fun n90 => (fl_X7_goesTimes_1_L90  (fun v0 v1 i_v1 => (xf_r i_v1)) (fun t0 z1 z2 z3 z4 z5 i_t0 => (xf_b2 (F := fun k => wp_X7_mustByte k t0 (41 : Int32)) (fx_X7_mustByte t0 (41 : Int32)) (fun r_19 u_20 j_u_20 => have i_u_20 := j_u_20.trans i_t0; (xf_n (xf_r i_u_20) (xf_r i_u_20))))) n90 ((va_up u_11.1 14 ((u_11.1 14) + 1)), u_11.2.1, u_11.2.2.1, u_11.2.2.2) x1 (u_2.1 8) r_10 (u_11.1 6) 0 i_u_11))))) (xf_r i_u_8)))) (xf_n (xf_b2 (F := fun k => wp_X7_mustByte k u_5 (40 : Int32)) (fx_X7_mustByte u_5 (40 : Int32)) (fun r_23 u_24 j_u_24 => have i_u_24 := j_u_24.trans i_u_5; (xf_n (xf_b2 (F := fun k => wp_X7_isDone k u_24 x1) (fx_X7_isDone u_24 x1) (fun r_26 u_27 j_u_27 => have i_u_27 := j_u_27.trans i_u_24; (xf_x (fun n90 => (fl_X7_goesTimes_1_L90  (fun v0 v1 i_v1 => (xf_r i_v1)) (fun t0 z1 z2 z3 z4 z5 i_t0 => (xf_b2 (F := fun k => wp_X7_mustByte k t0 (41 : Int32)) (fx_X7_mustByte t0 (41 : Int32)) (fun r_35 u_36 j_u_36 => have i_u_36 := j_u_36.trans i_t0; (xf_n (xf_r i_u_36) (xf_r i_u_36))))) n90 ((va_up u_27.1 14 ((u_27.1 14) + 1)), u_27.2.1, u_27.2.2.1, u_27.2.2.2) x1 (u_2.1 8) r_26 (u_27.1 6) 0 i_u_27))))) (xf_r i_u_24)))) (xf_b2 (F := fun k => wp_X7_fails k u_5 (3 : Int32) (u_5.1 6)) (fx_X7_fails u_5 (3 : Int32) (u_5.1 6)) (fun r_38 u_39 j_u_39 => have i_u_39 := j_u_39.trans i_u_5; (xf_c (xf_r i_u_39)))))))) (xf_r i_u_2))))
set_option maxHeartbeats 4000000 in
theorem fx_X7_goesOne_1 (s0 : Md) (x1 : Int32) : xf (fun P : (Int32 × Md) → Prop => wp_X7_goesOne_1 (fun a0 a1 => P (a0, a1)) s0 x1) (fun o => o.2.2.2.2 2 = s0.2.2.2 2) := by
  unfold wp_X7_goesOne_1
  exact (xf_b2 (F := fun k => wp_X7_isWord k s0 5) (fx_X7_isWord s0 5) (fun r_1 u_2 j_u_2 => have i_u_2 := j_u_2.trans rfl; (xf_p (xf_b2 (F := fun k => wp_X7_isWord k u_2 7) (fx_X7_isWord u_2 7) (fun r_4 u_5 j_u_5 => have i_u_5 := j_u_5.trans i_u_2; (xf_p (xf_b2 (F := fun k => wp_X7_isWord k u_5 8) (fx_X7_isWord u_5 8) (fun r_7 u_8 j_u_8 => have i_u_8 := j_u_8.trans i_u_5; (xf_p (xf_b2 (F := fun k => wp_X7_isWord k u_8 9) (fx_X7_isWord u_8 9) (fun r_10 u_11 j_u_11 => have i_u_11 := j_u_11.trans i_u_8; (xf_p (xf_b2 (F := fun k => wp_X7_isWord k u_11 10) (fx_X7_isWord u_11 10) (fun r_13 u_14 j_u_14 => have i_u_14 := j_u_14.trans i_u_11; (xf_p (xf_b2 (F := fun k => wp_X7_isWord k u_14 6) (fx_X7_isWord u_14 6) (fun r_16 u_17 j_u_17 => have i_u_17 := j_u_17.trans i_u_14; (xf_p (xf_b2 (F := fun k => wp_X7_isWord k u_17 11) (fx_X7_isWord u_17 11) (fun r_19 u_20 j_u_20 => have i_u_20 := j_u_20.trans i_u_17; (xf_p (xf_b2 (F := fun k => wp_X7_fails k u_20 (1 : Int32) (u_20.1 6)) (fx_X7_fails u_20 (1 : Int32) (u_20.1 6)) (fun r_22 u_23 j_u_23 => have i_u_23 := j_u_23.trans i_u_20; (xf_c (xf_r i_u_23)))) (xf_b2 (F := fun k => wp_X7_goesTimes_1 k u_20 x1) (fx_X7_goesTimes_1 u_20 x1) (fun r_25 u_26 j_u_26 => have i_u_26 := j_u_26.trans i_u_20; (xf_c (xf_r i_u_26))))))) (xf_b2 (F := fun k => wp_X7_goesLose k u_17 x1) (fx_X7_goesLose u_17 x1) (fun r_28 u_29 j_u_29 => have i_u_29 := j_u_29.trans i_u_17; (xf_c (xf_r i_u_29))))))) (xf_b2 (F := fun k => wp_X7_goesSettle k u_14 x1) (fx_X7_goesSettle u_14 x1) (fun r_31 u_32 j_u_32 => have i_u_32 := j_u_32.trans i_u_14; (xf_c (xf_r i_u_32))))))) (xf_b2 (F := fun k => wp_X7_goesWait k u_11 x1) (fx_X7_goesWait u_11 x1) (fun r_34 u_35 j_u_35 => have i_u_35 := j_u_35.trans i_u_11; (xf_c (xf_r i_u_35))))))) (xf_b2 (F := fun k => wp_X7_goesHome k u_8 x1) (fx_X7_goesHome u_8 x1) (fun r_37 u_38 j_u_38 => have i_u_38 := j_u_38.trans i_u_8; (xf_c (xf_r i_u_38))))))) (xf_b2 (F := fun k => wp_X7_goesScroll k u_5 x1) (fx_X7_goesScroll u_5 x1) (fun r_40 u_41 j_u_41 => have i_u_41 := j_u_41.trans i_u_5; (xf_c (xf_r i_u_41))))))) (xf_b2 (F := fun k => wp_X7_goesRow k u_2 x1) (fx_X7_goesRow u_2 x1) (fun r_43 u_44 j_u_44 => have i_u_44 := j_u_44.trans i_u_2; (xf_c (xf_r i_u_44)))))))
set_option maxHeartbeats 4000000 in
theorem fl_X7_goesAll_1_L10  {O : Type} {I : O → Prop} {c0 : Nat → Int32}  {G_post : Int32 → Md → (O → Prop) → Prop} {G_e27 : Md → Int32 → (O → Prop) → Prop} {G_e29 : Md → Int32 → (O → Prop) → Prop} (h_post : ∀ (v0 : Int32) (v1 : Md), v1.2.2.2 2 = c0 → xf (G_post v0 v1) I) (h_e27 : ∀ (v0 : Md) (v1 : Int32), v0.2.2.2 2 = c0 → xf (G_e27 v0 v1) I) (h_e29 : ∀ (v0 : Md) (v1 : Int32), v0.2.2.2 2 = c0 → xf (G_e29 v0 v1) I) : ∀ (n : Nat) (t0 : Md) (z1 : Int32), t0.2.2.2 2 = c0 → xf (fun P : O → Prop => wp_X7_goesAll_1_L10 (fun v0 v1 => G_post v0 v1 P) (fun v0 v1 => G_e27 v0 v1 P) (fun v0 v1 => G_e29 v0 v1 P) n t0 z1) I := by
  intro n
  induction n with
  | zero => exact fun _ _ _ => xf_F
  | succ n10 ih =>
    intro t0 z1 i_t0
    unfold wp_X7_goesAll_1_L10
    exact (xf_b2 (F := fun k => wp_X7_takesByte k t0 (59 : Int32)) (fx_X7_takesByte t0 (59 : Int32)) (fun r_4 u_5 j_u_5 => have i_u_5 := j_u_5.trans i_t0; (xf_p (h_e29 u_5 z1 i_u_5) (xf_b2 (F := fun k => wp_X7_goesOne_1 k u_5 z1) (fx_X7_goesOne_1 u_5 z1) (fun r_7 u_8 j_u_8 => have i_u_8 := j_u_8.trans i_u_5; (xf_n (ih u_8 z1 i_u_8) (h_e27 u_8 z1 i_u_8)))))))
set_option maxHeartbeats 4000000 in
theorem fx_X7_goesAll_1 (s0 : Md) (x1 : Int32) : xf (fun P : (Int32 × Md) → Prop => wp_X7_goesAll_1 (fun a0 a1 => P (a0, a1)) s0 x1) (fun o => o.2.2.2.2 2 = s0.2.2.2 2) := by
  unfold wp_X7_goesAll_1
  exact (xf_b2 (F := fun k => wp_X7_goesOne_1 k s0 x1) (fx_X7_goesOne_1 s0 x1) (fun r_1 u_2 j_u_2 => have i_u_2 := j_u_2.trans rfl; (xf_n (xf_x (fun n10 => (fl_X7_goesAll_1_L10  (fun v0 v1 i_v1 => (xf_r i_v1)) (fun t0 z1 i_t0 => (xf_r i_t0)) (fun t0 z1 i_t0 => (xf_r i_t0)) n10 u_2 x1 i_u_2))) (xf_r i_u_2))))
set_option maxHeartbeats 4000000 in
theorem fl_X7_goesTimes_2_L90  {O : Type} {I : O → Prop} {c0 : Nat → Int32}  {G_post : Int32 → Md → (O → Prop) → Prop} {G_e141 : Md → Int32 → Int32 → Int32 → Int32 → Int32 → (O → Prop) → Prop} (h_post : ∀ (v0 : Int32) (v1 : Md), v1.2.2.2 2 = c0 → xf (G_post v0 v1) I) (h_e141 : ∀ (v0 : Md) (v1 : Int32) (v2 : Int32) (v3 : Int32) (v4 : Int32) (v5 : Int32), v0.2.2.2 2 = c0 → xf (G_e141 v0 v1 v2 v3 v4 v5) I) : ∀ (n : Nat) (t0 : Md) (z1 : Int32) (z2 : Int32) (z3 : Int32) (z4 : Int32) (z5 : Int32), t0.2.2.2 2 = c0 → xf (fun P : O → Prop => wp_X7_goesTimes_2_L90 (fun v0 v1 => G_post v0 v1 P) (fun v0 v1 v2 v3 v4 v5 => G_e141 v0 v1 v2 v3 v4 v5 P) n t0 z1 z2 z3 z4 z5) I := by
  intro n
  induction n with
  | zero => exact fun _ _ _ _ _ _ _ => xf_F
  | succ n90 ih =>
    intro t0 z1 z2 z3 z4 z5 i_t0
    unfold wp_X7_goesTimes_2_L90
    exact (xf_p (xf_p (xf_b2 (F := fun k => wp_X7_goesAll_1 k ((va_up t0.1 6 z4), t0.2.1, t0.2.2.1, t0.2.2.2) (0 : Int32)) (fx_X7_goesAll_1 ((va_up t0.1 6 z4), t0.2.1, t0.2.2.1, t0.2.2.2) (0 : Int32)) (fun r_14 u_15 j_u_15 => have i_u_15 := j_u_15.trans i_t0; (xf_n (ih u_15 z1 z2 z3 z4 (z5 + 1) i_u_15) (h_post 0 u_15 i_u_15)))) (xf_p (xf_b2 (F := fun k => wp_X7_goesAll_1 k ((va_up t0.1 6 z4), t0.2.1, t0.2.2.1, t0.2.2.2) (0 : Int32)) (fx_X7_goesAll_1 ((va_up t0.1 6 z4), t0.2.1, t0.2.2.1, t0.2.2.2) (0 : Int32)) (fun r_18 u_19 j_u_19 => have i_u_19 := j_u_19.trans i_t0; (xf_n (ih u_19 z1 z2 z3 z4 (z5 + 1) i_u_19) (h_post 0 u_19 i_u_19)))) (xf_b2 (F := fun k => wp_X7_goesAll_1 k ((va_up t0.1 6 z4), t0.2.1, t0.2.2.1, t0.2.2.2) (1 : Int32)) (fx_X7_goesAll_1 ((va_up t0.1 6 z4), t0.2.1, t0.2.2.1, t0.2.2.2) (1 : Int32)) (fun r_21 u_22 j_u_22 => have i_u_22 := j_u_22.trans i_t0; (xf_n (ih u_22 z1 z2 z3 z4 (z5 + 1) i_u_22) (h_post 0 u_22 i_u_22)))))) (xf_p (h_e141 t0 z1 z2 z3 z4 z5 i_t0) (xf_p (h_e141 t0 z1 z2 z3 z4 z5 i_t0) (xf_p (xf_b2 (F := fun k => wp_X7_goesAll_1 k ((va_up t0.1 6 z4), t0.2.1, t0.2.2.1, t0.2.2.2) (0 : Int32)) (fx_X7_goesAll_1 ((va_up t0.1 6 z4), t0.2.1, t0.2.2.1, t0.2.2.2) (0 : Int32)) (fun r_27 u_28 j_u_28 => have i_u_28 := j_u_28.trans i_t0; (xf_n (ih u_28 z1 z2 z3 z4 (z5 + 1) i_u_28) (h_post 0 u_28 i_u_28)))) (xf_p (xf_b2 (F := fun k => wp_X7_goesAll_1 k ((va_up t0.1 6 z4), t0.2.1, t0.2.2.1, t0.2.2.2) (0 : Int32)) (fx_X7_goesAll_1 ((va_up t0.1 6 z4), t0.2.1, t0.2.2.1, t0.2.2.2) (0 : Int32)) (fun r_31 u_32 j_u_32 => have i_u_32 := j_u_32.trans i_t0; (xf_n (ih u_32 z1 z2 z3 z4 (z5 + 1) i_u_32) (h_post 0 u_32 i_u_32)))) (xf_b2 (F := fun k => wp_X7_goesAll_1 k ((va_up t0.1 6 z4), t0.2.1, t0.2.2.1, t0.2.2.2) (1 : Int32)) (fx_X7_goesAll_1 ((va_up t0.1 6 z4), t0.2.1, t0.2.2.1, t0.2.2.2) (1 : Int32)) (fun r_34 u_35 j_u_35 => have i_u_35 := j_u_35.trans i_t0; (xf_n (ih u_35 z1 z2 z3 z4 (z5 + 1) i_u_35) (h_post 0 u_35 i_u_35)))))))))
set_option maxHeartbeats 4000000 in
theorem fl_X7_goesTimes_2_L90b  {O : Type} {I : O → Prop} {c0 : Nat → Int32}  {G_post : Int32 → Md → (O → Prop) → Prop} {G_e141 : Md → Int32 → Int32 → Int32 → Int32 → Int32 → (O → Prop) → Prop} (h_post : ∀ (v0 : Int32) (v1 : Md), v1.2.2.2 2 = c0 → xf (G_post v0 v1) I) (h_e141 : ∀ (v0 : Md) (v1 : Int32) (v2 : Int32) (v3 : Int32) (v4 : Int32) (v5 : Int32), v0.2.2.2 2 = c0 → xf (G_e141 v0 v1 v2 v3 v4 v5) I) : ∀ (n : Nat) (t0 : Md) (z1 : Int32) (z2 : Int32) (z3 : Int32) (z4 : Int32) (z5 : Int32), t0.2.2.2 2 = c0 → xf (fun P : O → Prop => wp_X7_goesTimes_2_L90b (fun v0 v1 => G_post v0 v1 P) (fun v0 v1 v2 v3 v4 v5 => G_e141 v0 v1 v2 v3 v4 v5 P) n t0 z1 z2 z3 z4 z5) I := by
  intro n
  induction n with
  | zero => exact fun _ _ _ _ _ _ _ => xf_F
  | succ n90 ih =>
    intro t0 z1 z2 z3 z4 z5 i_t0
    unfold wp_X7_goesTimes_2_L90b
    exact (xf_p (xf_p (xf_b2 (F := fun k => wp_X7_goesAll_1 k ((va_up t0.1 6 z4), t0.2.1, t0.2.2.1, t0.2.2.2) (0 : Int32)) (fx_X7_goesAll_1 ((va_up t0.1 6 z4), t0.2.1, t0.2.2.1, t0.2.2.2) (0 : Int32)) (fun r_48 u_49 j_u_49 => have i_u_49 := j_u_49.trans i_t0; (xf_n (ih u_49 z1 z2 z3 z4 (z5 + 1) i_u_49) (h_post 0 u_49 i_u_49)))) (xf_p (xf_b2 (F := fun k => wp_X7_goesAll_1 k ((va_up t0.1 6 z4), t0.2.1, t0.2.2.1, t0.2.2.2) (0 : Int32)) (fx_X7_goesAll_1 ((va_up t0.1 6 z4), t0.2.1, t0.2.2.1, t0.2.2.2) (0 : Int32)) (fun r_52 u_53 j_u_53 => have i_u_53 := j_u_53.trans i_t0; (xf_n (ih u_53 z1 z2 z3 z4 (z5 + 1) i_u_53) (h_post 0 u_53 i_u_53)))) (xf_b2 (F := fun k => wp_X7_goesAll_1 k ((va_up t0.1 6 z4), t0.2.1, t0.2.2.1, t0.2.2.2) (1 : Int32)) (fx_X7_goesAll_1 ((va_up t0.1 6 z4), t0.2.1, t0.2.2.1, t0.2.2.2) (1 : Int32)) (fun r_55 u_56 j_u_56 => have i_u_56 := j_u_56.trans i_t0; (xf_n (ih u_56 z1 z2 z3 z4 (z5 + 1) i_u_56) (h_post 0 u_56 i_u_56)))))) (xf_p (h_e141 t0 z1 z2 z3 z4 z5 i_t0) (xf_p (h_e141 t0 z1 z2 z3 z4 z5 i_t0) (xf_p (xf_b2 (F := fun k => wp_X7_goesAll_1 k ((va_up t0.1 6 z4), t0.2.1, t0.2.2.1, t0.2.2.2) (0 : Int32)) (fx_X7_goesAll_1 ((va_up t0.1 6 z4), t0.2.1, t0.2.2.1, t0.2.2.2) (0 : Int32)) (fun r_61 u_62 j_u_62 => have i_u_62 := j_u_62.trans i_t0; (xf_n (ih u_62 z1 z2 z3 z4 (z5 + 1) i_u_62) (h_post 0 u_62 i_u_62)))) (xf_p (xf_b2 (F := fun k => wp_X7_goesAll_1 k ((va_up t0.1 6 z4), t0.2.1, t0.2.2.1, t0.2.2.2) (0 : Int32)) (fx_X7_goesAll_1 ((va_up t0.1 6 z4), t0.2.1, t0.2.2.1, t0.2.2.2) (0 : Int32)) (fun r_65 u_66 j_u_66 => have i_u_66 := j_u_66.trans i_t0; (xf_n (ih u_66 z1 z2 z3 z4 (z5 + 1) i_u_66) (h_post 0 u_66 i_u_66)))) (xf_b2 (F := fun k => wp_X7_goesAll_1 k ((va_up t0.1 6 z4), t0.2.1, t0.2.2.1, t0.2.2.2) (1 : Int32)) (fx_X7_goesAll_1 ((va_up t0.1 6 z4), t0.2.1, t0.2.2.1, t0.2.2.2) (1 : Int32)) (fun r_68 u_69 j_u_69 => have i_u_69 := j_u_69.trans i_t0; (xf_n (ih u_69 z1 z2 z3 z4 (z5 + 1) i_u_69) (h_post 0 u_69 i_u_69)))))))))
set_option maxHeartbeats 4000000 in
theorem fx_X7_goesTimes_2 (s0 : Md) (x1 : Int32) : xf (fun P : (Int32 × Md) → Prop => wp_X7_goesTimes_2 (fun a0 a1 => P (a0, a1)) s0 x1) (fun o => o.2.2.2.2 2 = s0.2.2.2 2) := by
  unfold wp_X7_goesTimes_2
  exact (xf_b2 (F := fun k => wp_X7_readsNumber k ((va_up s0.1 6 ((s0.1 6) + 5)), s0.2.1, s0.2.2.1, s0.2.2.2) (0 : Int32) (20 : Int32)) (fx_X7_readsNumber ((va_up s0.1 6 ((s0.1 6) + 5)), s0.2.1, s0.2.2.1, s0.2.2.2) (0 : Int32) (20 : Int32)) (fun r_1 u_2 j_u_2 => have i_u_2 := j_u_2.trans rfl; (xf_n (xf_b2 (F := fun k => wp_X7_nextByte k u_2) (fx_X7_nextByte u_2) (fun r_4 u_5 j_u_5 => have i_u_5 := j_u_5.trans i_u_2; (xf_n (xf_b2 (F := fun k => wp_X7_mustByte k u_5 (40 : Int32)) (fx_X7_mustByte u_5 (40 : Int32)) (fun r_7 u_8 j_u_8 => have i_u_8 := j_u_8.trans i_u_5; (xf_n (xf_b2 (F := fun k => wp_X7_isDone k u_8 x1) (fx_X7_isDone u_8 x1) (fun r_10 u_11 j_u_11 => have i_u_11 := j_u_11.trans i_u_8; (xf_x (fun n90 => (fl_X7_goesTimes_2_L90  (fun v0 v1 i_v1 => (xf_r i_v1)) (fun t0 z1 z2 z3 z4 z5 i_t0 => (xf_b2 (F := fun k => wp_X7_mustByte k t0 (41 : Int32)) (fx_X7_mustByte t0 (41 : Int32)) (fun r_37 u_38 j_u_38 => have i_u_38 := j_u_38.trans i_t0; (xf_n (xf_r i_u_38) (xf_r i_u_38))))) n90 ((va_up u_11.1 14 ((u_11.1 14) + 1)), u_11.2.1, u_11.2.2.1, u_11.2.2.2) x1 (u_2.1 8) r_10 (u_11.1 6) 0 i_u_11))))) (xf_r i_u_8)))) (xf_n (xf_b2 (F := fun k => wp_X7_mustByte k u_5 (40 : Int32)) (fx_X7_mustByte u_5 (40 : Int32)) (fun r_41 u_42 j_u_42 => have i_u_42 := j_u_42.trans i_u_5; (xf_n (xf_b2 (F := fun k => wp_X7_isDone k u_42 x1) (fx_X7_isDone u_42 x1) (fun r_44 u_45 j_u_45 => have i_u_45 := j_u_45.trans i_u_42; (xf_x (fun n90 => (fl_X7_goesTimes_2_L90b  (fun v0 v1 i_v1 => (xf_r i_v1)) (fun t0 z1 z2 z3 z4 z5 i_t0 => (xf_b2 (F := fun k => wp_X7_mustByte k t0 (41 : Int32)) (fx_X7_mustByte t0 (41 : Int32)) (fun r_71 u_72 j_u_72 => have i_u_72 := j_u_72.trans i_t0; (xf_n (xf_r i_u_72) (xf_r i_u_72))))) n90 ((va_up u_45.1 14 ((u_45.1 14) + 1)), u_45.2.1, u_45.2.2.1, u_45.2.2.2) x1 (u_2.1 8) r_44 (u_45.1 6) 0 i_u_45))))) (xf_r i_u_42)))) (xf_b2 (F := fun k => wp_X7_fails k u_5 (3 : Int32) (u_5.1 6)) (fx_X7_fails u_5 (3 : Int32) (u_5.1 6)) (fun r_74 u_75 j_u_75 => have i_u_75 := j_u_75.trans i_u_5; (xf_c (xf_r i_u_75)))))))) (xf_r i_u_2))))
set_option maxHeartbeats 4000000 in
theorem fx_X7_goesOne_2 (s0 : Md) (x1 : Int32) : xf (fun P : (Int32 × Md) → Prop => wp_X7_goesOne_2 (fun a0 a1 => P (a0, a1)) s0 x1) (fun o => o.2.2.2.2 2 = s0.2.2.2 2) := by
  unfold wp_X7_goesOne_2
  exact (xf_b2 (F := fun k => wp_X7_isWord k s0 5) (fx_X7_isWord s0 5) (fun r_1 u_2 j_u_2 => have i_u_2 := j_u_2.trans rfl; (xf_p (xf_b2 (F := fun k => wp_X7_isWord k u_2 7) (fx_X7_isWord u_2 7) (fun r_4 u_5 j_u_5 => have i_u_5 := j_u_5.trans i_u_2; (xf_p (xf_b2 (F := fun k => wp_X7_isWord k u_5 8) (fx_X7_isWord u_5 8) (fun r_7 u_8 j_u_8 => have i_u_8 := j_u_8.trans i_u_5; (xf_p (xf_b2 (F := fun k => wp_X7_isWord k u_8 9) (fx_X7_isWord u_8 9) (fun r_10 u_11 j_u_11 => have i_u_11 := j_u_11.trans i_u_8; (xf_p (xf_b2 (F := fun k => wp_X7_isWord k u_11 10) (fx_X7_isWord u_11 10) (fun r_13 u_14 j_u_14 => have i_u_14 := j_u_14.trans i_u_11; (xf_p (xf_b2 (F := fun k => wp_X7_isWord k u_14 6) (fx_X7_isWord u_14 6) (fun r_16 u_17 j_u_17 => have i_u_17 := j_u_17.trans i_u_14; (xf_p (xf_b2 (F := fun k => wp_X7_isWord k u_17 11) (fx_X7_isWord u_17 11) (fun r_19 u_20 j_u_20 => have i_u_20 := j_u_20.trans i_u_17; (xf_p (xf_b2 (F := fun k => wp_X7_fails k u_20 (1 : Int32) (u_20.1 6)) (fx_X7_fails u_20 (1 : Int32) (u_20.1 6)) (fun r_22 u_23 j_u_23 => have i_u_23 := j_u_23.trans i_u_20; (xf_c (xf_r i_u_23)))) (xf_b2 (F := fun k => wp_X7_goesTimes_2 k u_20 x1) (fx_X7_goesTimes_2 u_20 x1) (fun r_25 u_26 j_u_26 => have i_u_26 := j_u_26.trans i_u_20; (xf_c (xf_r i_u_26))))))) (xf_b2 (F := fun k => wp_X7_goesLose k u_17 x1) (fx_X7_goesLose u_17 x1) (fun r_28 u_29 j_u_29 => have i_u_29 := j_u_29.trans i_u_17; (xf_c (xf_r i_u_29))))))) (xf_b2 (F := fun k => wp_X7_goesSettle k u_14 x1) (fx_X7_goesSettle u_14 x1) (fun r_31 u_32 j_u_32 => have i_u_32 := j_u_32.trans i_u_14; (xf_c (xf_r i_u_32))))))) (xf_b2 (F := fun k => wp_X7_goesWait k u_11 x1) (fx_X7_goesWait u_11 x1) (fun r_34 u_35 j_u_35 => have i_u_35 := j_u_35.trans i_u_11; (xf_c (xf_r i_u_35))))))) (xf_b2 (F := fun k => wp_X7_goesHome k u_8 x1) (fx_X7_goesHome u_8 x1) (fun r_37 u_38 j_u_38 => have i_u_38 := j_u_38.trans i_u_8; (xf_c (xf_r i_u_38))))))) (xf_b2 (F := fun k => wp_X7_goesScroll k u_5 x1) (fx_X7_goesScroll u_5 x1) (fun r_40 u_41 j_u_41 => have i_u_41 := j_u_41.trans i_u_5; (xf_c (xf_r i_u_41))))))) (xf_b2 (F := fun k => wp_X7_goesRow k u_2 x1) (fx_X7_goesRow u_2 x1) (fun r_43 u_44 j_u_44 => have i_u_44 := j_u_44.trans i_u_2; (xf_c (xf_r i_u_44)))))))
set_option maxHeartbeats 4000000 in
theorem fl_X7_goesAll_2_L10  {O : Type} {I : O → Prop} {c0 : Nat → Int32}  {G_post : Int32 → Md → (O → Prop) → Prop} {G_e27 : Md → Int32 → (O → Prop) → Prop} {G_e29 : Md → Int32 → (O → Prop) → Prop} (h_post : ∀ (v0 : Int32) (v1 : Md), v1.2.2.2 2 = c0 → xf (G_post v0 v1) I) (h_e27 : ∀ (v0 : Md) (v1 : Int32), v0.2.2.2 2 = c0 → xf (G_e27 v0 v1) I) (h_e29 : ∀ (v0 : Md) (v1 : Int32), v0.2.2.2 2 = c0 → xf (G_e29 v0 v1) I) : ∀ (n : Nat) (t0 : Md) (z1 : Int32), t0.2.2.2 2 = c0 → xf (fun P : O → Prop => wp_X7_goesAll_2_L10 (fun v0 v1 => G_post v0 v1 P) (fun v0 v1 => G_e27 v0 v1 P) (fun v0 v1 => G_e29 v0 v1 P) n t0 z1) I := by
  intro n
  induction n with
  | zero => exact fun _ _ _ => xf_F
  | succ n10 ih =>
    intro t0 z1 i_t0
    unfold wp_X7_goesAll_2_L10
    exact (xf_b2 (F := fun k => wp_X7_takesByte k t0 (59 : Int32)) (fx_X7_takesByte t0 (59 : Int32)) (fun r_4 u_5 j_u_5 => have i_u_5 := j_u_5.trans i_t0; (xf_p (h_e29 u_5 z1 i_u_5) (xf_b2 (F := fun k => wp_X7_goesOne_2 k u_5 z1) (fx_X7_goesOne_2 u_5 z1) (fun r_7 u_8 j_u_8 => have i_u_8 := j_u_8.trans i_u_5; (xf_n (ih u_8 z1 i_u_8) (h_e27 u_8 z1 i_u_8)))))))
set_option maxHeartbeats 4000000 in
theorem fx_X7_goesAll_2 (s0 : Md) (x1 : Int32) : xf (fun P : (Int32 × Md) → Prop => wp_X7_goesAll_2 (fun a0 a1 => P (a0, a1)) s0 x1) (fun o => o.2.2.2.2 2 = s0.2.2.2 2) := by
  unfold wp_X7_goesAll_2
  exact (xf_b2 (F := fun k => wp_X7_goesOne_2 k s0 x1) (fx_X7_goesOne_2 s0 x1) (fun r_1 u_2 j_u_2 => have i_u_2 := j_u_2.trans rfl; (xf_n (xf_x (fun n10 => (fl_X7_goesAll_2_L10  (fun v0 v1 i_v1 => (xf_r i_v1)) (fun t0 z1 i_t0 => (xf_r i_t0)) (fun t0 z1 i_t0 => (xf_r i_t0)) n10 u_2 x1 i_u_2))) (xf_r i_u_2))))
set_option maxHeartbeats 4000000 in
theorem fl_X7_goesTimes_3_L90  {O : Type} {I : O → Prop} {c0 : Nat → Int32}  {G_post : Int32 → Md → (O → Prop) → Prop} {G_e141 : Md → Int32 → Int32 → Int32 → Int32 → Int32 → (O → Prop) → Prop} (h_post : ∀ (v0 : Int32) (v1 : Md), v1.2.2.2 2 = c0 → xf (G_post v0 v1) I) (h_e141 : ∀ (v0 : Md) (v1 : Int32) (v2 : Int32) (v3 : Int32) (v4 : Int32) (v5 : Int32), v0.2.2.2 2 = c0 → xf (G_e141 v0 v1 v2 v3 v4 v5) I) : ∀ (n : Nat) (t0 : Md) (z1 : Int32) (z2 : Int32) (z3 : Int32) (z4 : Int32) (z5 : Int32), t0.2.2.2 2 = c0 → xf (fun P : O → Prop => wp_X7_goesTimes_3_L90 (fun v0 v1 => G_post v0 v1 P) (fun v0 v1 v2 v3 v4 v5 => G_e141 v0 v1 v2 v3 v4 v5 P) n t0 z1 z2 z3 z4 z5) I := by
  intro n
  induction n with
  | zero => exact fun _ _ _ _ _ _ _ => xf_F
  | succ n90 ih =>
    intro t0 z1 z2 z3 z4 z5 i_t0
    unfold wp_X7_goesTimes_3_L90
    exact (xf_p (xf_p (xf_b2 (F := fun k => wp_X7_goesAll_2 k ((va_up t0.1 6 z4), t0.2.1, t0.2.2.1, t0.2.2.2) (0 : Int32)) (fx_X7_goesAll_2 ((va_up t0.1 6 z4), t0.2.1, t0.2.2.1, t0.2.2.2) (0 : Int32)) (fun r_14 u_15 j_u_15 => have i_u_15 := j_u_15.trans i_t0; (xf_n (ih u_15 z1 z2 z3 z4 (z5 + 1) i_u_15) (h_post 0 u_15 i_u_15)))) (xf_p (xf_b2 (F := fun k => wp_X7_goesAll_2 k ((va_up t0.1 6 z4), t0.2.1, t0.2.2.1, t0.2.2.2) (0 : Int32)) (fx_X7_goesAll_2 ((va_up t0.1 6 z4), t0.2.1, t0.2.2.1, t0.2.2.2) (0 : Int32)) (fun r_18 u_19 j_u_19 => have i_u_19 := j_u_19.trans i_t0; (xf_n (ih u_19 z1 z2 z3 z4 (z5 + 1) i_u_19) (h_post 0 u_19 i_u_19)))) (xf_b2 (F := fun k => wp_X7_goesAll_2 k ((va_up t0.1 6 z4), t0.2.1, t0.2.2.1, t0.2.2.2) (1 : Int32)) (fx_X7_goesAll_2 ((va_up t0.1 6 z4), t0.2.1, t0.2.2.1, t0.2.2.2) (1 : Int32)) (fun r_21 u_22 j_u_22 => have i_u_22 := j_u_22.trans i_t0; (xf_n (ih u_22 z1 z2 z3 z4 (z5 + 1) i_u_22) (h_post 0 u_22 i_u_22)))))) (xf_p (h_e141 t0 z1 z2 z3 z4 z5 i_t0) (xf_p (h_e141 t0 z1 z2 z3 z4 z5 i_t0) (xf_p (xf_b2 (F := fun k => wp_X7_goesAll_2 k ((va_up t0.1 6 z4), t0.2.1, t0.2.2.1, t0.2.2.2) (0 : Int32)) (fx_X7_goesAll_2 ((va_up t0.1 6 z4), t0.2.1, t0.2.2.1, t0.2.2.2) (0 : Int32)) (fun r_27 u_28 j_u_28 => have i_u_28 := j_u_28.trans i_t0; (xf_n (ih u_28 z1 z2 z3 z4 (z5 + 1) i_u_28) (h_post 0 u_28 i_u_28)))) (xf_p (xf_b2 (F := fun k => wp_X7_goesAll_2 k ((va_up t0.1 6 z4), t0.2.1, t0.2.2.1, t0.2.2.2) (0 : Int32)) (fx_X7_goesAll_2 ((va_up t0.1 6 z4), t0.2.1, t0.2.2.1, t0.2.2.2) (0 : Int32)) (fun r_31 u_32 j_u_32 => have i_u_32 := j_u_32.trans i_t0; (xf_n (ih u_32 z1 z2 z3 z4 (z5 + 1) i_u_32) (h_post 0 u_32 i_u_32)))) (xf_b2 (F := fun k => wp_X7_goesAll_2 k ((va_up t0.1 6 z4), t0.2.1, t0.2.2.1, t0.2.2.2) (1 : Int32)) (fx_X7_goesAll_2 ((va_up t0.1 6 z4), t0.2.1, t0.2.2.1, t0.2.2.2) (1 : Int32)) (fun r_34 u_35 j_u_35 => have i_u_35 := j_u_35.trans i_t0; (xf_n (ih u_35 z1 z2 z3 z4 (z5 + 1) i_u_35) (h_post 0 u_35 i_u_35)))))))))
set_option maxHeartbeats 4000000 in
theorem fl_X7_goesTimes_3_L90b  {O : Type} {I : O → Prop} {c0 : Nat → Int32}  {G_post : Int32 → Md → (O → Prop) → Prop} {G_e141 : Md → Int32 → Int32 → Int32 → Int32 → Int32 → (O → Prop) → Prop} (h_post : ∀ (v0 : Int32) (v1 : Md), v1.2.2.2 2 = c0 → xf (G_post v0 v1) I) (h_e141 : ∀ (v0 : Md) (v1 : Int32) (v2 : Int32) (v3 : Int32) (v4 : Int32) (v5 : Int32), v0.2.2.2 2 = c0 → xf (G_e141 v0 v1 v2 v3 v4 v5) I) : ∀ (n : Nat) (t0 : Md) (z1 : Int32) (z2 : Int32) (z3 : Int32) (z4 : Int32) (z5 : Int32), t0.2.2.2 2 = c0 → xf (fun P : O → Prop => wp_X7_goesTimes_3_L90b (fun v0 v1 => G_post v0 v1 P) (fun v0 v1 v2 v3 v4 v5 => G_e141 v0 v1 v2 v3 v4 v5 P) n t0 z1 z2 z3 z4 z5) I := by
  intro n
  induction n with
  | zero => exact fun _ _ _ _ _ _ _ => xf_F
  | succ n90 ih =>
    intro t0 z1 z2 z3 z4 z5 i_t0
    unfold wp_X7_goesTimes_3_L90b
    exact (xf_p (xf_p (xf_b2 (F := fun k => wp_X7_goesAll_2 k ((va_up t0.1 6 z4), t0.2.1, t0.2.2.1, t0.2.2.2) (0 : Int32)) (fx_X7_goesAll_2 ((va_up t0.1 6 z4), t0.2.1, t0.2.2.1, t0.2.2.2) (0 : Int32)) (fun r_48 u_49 j_u_49 => have i_u_49 := j_u_49.trans i_t0; (xf_n (ih u_49 z1 z2 z3 z4 (z5 + 1) i_u_49) (h_post 0 u_49 i_u_49)))) (xf_p (xf_b2 (F := fun k => wp_X7_goesAll_2 k ((va_up t0.1 6 z4), t0.2.1, t0.2.2.1, t0.2.2.2) (0 : Int32)) (fx_X7_goesAll_2 ((va_up t0.1 6 z4), t0.2.1, t0.2.2.1, t0.2.2.2) (0 : Int32)) (fun r_52 u_53 j_u_53 => have i_u_53 := j_u_53.trans i_t0; (xf_n (ih u_53 z1 z2 z3 z4 (z5 + 1) i_u_53) (h_post 0 u_53 i_u_53)))) (xf_b2 (F := fun k => wp_X7_goesAll_2 k ((va_up t0.1 6 z4), t0.2.1, t0.2.2.1, t0.2.2.2) (1 : Int32)) (fx_X7_goesAll_2 ((va_up t0.1 6 z4), t0.2.1, t0.2.2.1, t0.2.2.2) (1 : Int32)) (fun r_55 u_56 j_u_56 => have i_u_56 := j_u_56.trans i_t0; (xf_n (ih u_56 z1 z2 z3 z4 (z5 + 1) i_u_56) (h_post 0 u_56 i_u_56)))))) (xf_p (h_e141 t0 z1 z2 z3 z4 z5 i_t0) (xf_p (h_e141 t0 z1 z2 z3 z4 z5 i_t0) (xf_p (xf_b2 (F := fun k => wp_X7_goesAll_2 k ((va_up t0.1 6 z4), t0.2.1, t0.2.2.1, t0.2.2.2) (0 : Int32)) (fx_X7_goesAll_2 ((va_up t0.1 6 z4), t0.2.1, t0.2.2.1, t0.2.2.2) (0 : Int32)) (fun r_61 u_62 j_u_62 => have i_u_62 := j_u_62.trans i_t0; (xf_n (ih u_62 z1 z2 z3 z4 (z5 + 1) i_u_62) (h_post 0 u_62 i_u_62)))) (xf_p (xf_b2 (F := fun k => wp_X7_goesAll_2 k ((va_up t0.1 6 z4), t0.2.1, t0.2.2.1, t0.2.2.2) (0 : Int32)) (fx_X7_goesAll_2 ((va_up t0.1 6 z4), t0.2.1, t0.2.2.1, t0.2.2.2) (0 : Int32)) (fun r_65 u_66 j_u_66 => have i_u_66 := j_u_66.trans i_t0; (xf_n (ih u_66 z1 z2 z3 z4 (z5 + 1) i_u_66) (h_post 0 u_66 i_u_66)))) (xf_b2 (F := fun k => wp_X7_goesAll_2 k ((va_up t0.1 6 z4), t0.2.1, t0.2.2.1, t0.2.2.2) (1 : Int32)) (fx_X7_goesAll_2 ((va_up t0.1 6 z4), t0.2.1, t0.2.2.1, t0.2.2.2) (1 : Int32)) (fun r_68 u_69 j_u_69 => have i_u_69 := j_u_69.trans i_t0; (xf_n (ih u_69 z1 z2 z3 z4 (z5 + 1) i_u_69) (h_post 0 u_69 i_u_69)))))))))
set_option maxHeartbeats 4000000 in
theorem fx_X7_goesTimes_3 (s0 : Md) (x1 : Int32) : xf (fun P : (Int32 × Md) → Prop => wp_X7_goesTimes_3 (fun a0 a1 => P (a0, a1)) s0 x1) (fun o => o.2.2.2.2 2 = s0.2.2.2 2) := by
  unfold wp_X7_goesTimes_3
  exact (xf_b2 (F := fun k => wp_X7_readsNumber k ((va_up s0.1 6 ((s0.1 6) + 5)), s0.2.1, s0.2.2.1, s0.2.2.2) (0 : Int32) (20 : Int32)) (fx_X7_readsNumber ((va_up s0.1 6 ((s0.1 6) + 5)), s0.2.1, s0.2.2.1, s0.2.2.2) (0 : Int32) (20 : Int32)) (fun r_1 u_2 j_u_2 => have i_u_2 := j_u_2.trans rfl; (xf_n (xf_b2 (F := fun k => wp_X7_nextByte k u_2) (fx_X7_nextByte u_2) (fun r_4 u_5 j_u_5 => have i_u_5 := j_u_5.trans i_u_2; (xf_n (xf_b2 (F := fun k => wp_X7_mustByte k u_5 (40 : Int32)) (fx_X7_mustByte u_5 (40 : Int32)) (fun r_7 u_8 j_u_8 => have i_u_8 := j_u_8.trans i_u_5; (xf_n (xf_b2 (F := fun k => wp_X7_isDone k u_8 x1) (fx_X7_isDone u_8 x1) (fun r_10 u_11 j_u_11 => have i_u_11 := j_u_11.trans i_u_8; (xf_x (fun n90 => (fl_X7_goesTimes_3_L90  (fun v0 v1 i_v1 => (xf_r i_v1)) (fun t0 z1 z2 z3 z4 z5 i_t0 => (xf_b2 (F := fun k => wp_X7_mustByte k t0 (41 : Int32)) (fx_X7_mustByte t0 (41 : Int32)) (fun r_37 u_38 j_u_38 => have i_u_38 := j_u_38.trans i_t0; (xf_n (xf_r i_u_38) (xf_r i_u_38))))) n90 ((va_up u_11.1 14 ((u_11.1 14) + 1)), u_11.2.1, u_11.2.2.1, u_11.2.2.2) x1 (u_2.1 8) r_10 (u_11.1 6) 0 i_u_11))))) (xf_r i_u_8)))) (xf_n (xf_b2 (F := fun k => wp_X7_mustByte k u_5 (40 : Int32)) (fx_X7_mustByte u_5 (40 : Int32)) (fun r_41 u_42 j_u_42 => have i_u_42 := j_u_42.trans i_u_5; (xf_n (xf_b2 (F := fun k => wp_X7_isDone k u_42 x1) (fx_X7_isDone u_42 x1) (fun r_44 u_45 j_u_45 => have i_u_45 := j_u_45.trans i_u_42; (xf_x (fun n90 => (fl_X7_goesTimes_3_L90b  (fun v0 v1 i_v1 => (xf_r i_v1)) (fun t0 z1 z2 z3 z4 z5 i_t0 => (xf_b2 (F := fun k => wp_X7_mustByte k t0 (41 : Int32)) (fx_X7_mustByte t0 (41 : Int32)) (fun r_71 u_72 j_u_72 => have i_u_72 := j_u_72.trans i_t0; (xf_n (xf_r i_u_72) (xf_r i_u_72))))) n90 ((va_up u_45.1 14 ((u_45.1 14) + 1)), u_45.2.1, u_45.2.2.1, u_45.2.2.2) x1 (u_2.1 8) r_44 (u_45.1 6) 0 i_u_45))))) (xf_r i_u_42)))) (xf_b2 (F := fun k => wp_X7_fails k u_5 (3 : Int32) (u_5.1 6)) (fx_X7_fails u_5 (3 : Int32) (u_5.1 6)) (fun r_74 u_75 j_u_75 => have i_u_75 := j_u_75.trans i_u_5; (xf_c (xf_r i_u_75)))))))) (xf_r i_u_2))))
set_option maxHeartbeats 4000000 in
theorem fx_X7_goesOne_3 (s0 : Md) (x1 : Int32) : xf (fun P : (Int32 × Md) → Prop => wp_X7_goesOne_3 (fun a0 a1 => P (a0, a1)) s0 x1) (fun o => o.2.2.2.2 2 = s0.2.2.2 2) := by
  unfold wp_X7_goesOne_3
  exact (xf_b2 (F := fun k => wp_X7_isWord k s0 5) (fx_X7_isWord s0 5) (fun r_1 u_2 j_u_2 => have i_u_2 := j_u_2.trans rfl; (xf_p (xf_b2 (F := fun k => wp_X7_isWord k u_2 7) (fx_X7_isWord u_2 7) (fun r_4 u_5 j_u_5 => have i_u_5 := j_u_5.trans i_u_2; (xf_p (xf_b2 (F := fun k => wp_X7_isWord k u_5 8) (fx_X7_isWord u_5 8) (fun r_7 u_8 j_u_8 => have i_u_8 := j_u_8.trans i_u_5; (xf_p (xf_b2 (F := fun k => wp_X7_isWord k u_8 9) (fx_X7_isWord u_8 9) (fun r_10 u_11 j_u_11 => have i_u_11 := j_u_11.trans i_u_8; (xf_p (xf_b2 (F := fun k => wp_X7_isWord k u_11 10) (fx_X7_isWord u_11 10) (fun r_13 u_14 j_u_14 => have i_u_14 := j_u_14.trans i_u_11; (xf_p (xf_b2 (F := fun k => wp_X7_isWord k u_14 6) (fx_X7_isWord u_14 6) (fun r_16 u_17 j_u_17 => have i_u_17 := j_u_17.trans i_u_14; (xf_p (xf_b2 (F := fun k => wp_X7_isWord k u_17 11) (fx_X7_isWord u_17 11) (fun r_19 u_20 j_u_20 => have i_u_20 := j_u_20.trans i_u_17; (xf_p (xf_b2 (F := fun k => wp_X7_fails k u_20 (1 : Int32) (u_20.1 6)) (fx_X7_fails u_20 (1 : Int32) (u_20.1 6)) (fun r_22 u_23 j_u_23 => have i_u_23 := j_u_23.trans i_u_20; (xf_c (xf_r i_u_23)))) (xf_b2 (F := fun k => wp_X7_goesTimes_3 k u_20 x1) (fx_X7_goesTimes_3 u_20 x1) (fun r_25 u_26 j_u_26 => have i_u_26 := j_u_26.trans i_u_20; (xf_c (xf_r i_u_26))))))) (xf_b2 (F := fun k => wp_X7_goesLose k u_17 x1) (fx_X7_goesLose u_17 x1) (fun r_28 u_29 j_u_29 => have i_u_29 := j_u_29.trans i_u_17; (xf_c (xf_r i_u_29))))))) (xf_b2 (F := fun k => wp_X7_goesSettle k u_14 x1) (fx_X7_goesSettle u_14 x1) (fun r_31 u_32 j_u_32 => have i_u_32 := j_u_32.trans i_u_14; (xf_c (xf_r i_u_32))))))) (xf_b2 (F := fun k => wp_X7_goesWait k u_11 x1) (fx_X7_goesWait u_11 x1) (fun r_34 u_35 j_u_35 => have i_u_35 := j_u_35.trans i_u_11; (xf_c (xf_r i_u_35))))))) (xf_b2 (F := fun k => wp_X7_goesHome k u_8 x1) (fx_X7_goesHome u_8 x1) (fun r_37 u_38 j_u_38 => have i_u_38 := j_u_38.trans i_u_8; (xf_c (xf_r i_u_38))))))) (xf_b2 (F := fun k => wp_X7_goesScroll k u_5 x1) (fx_X7_goesScroll u_5 x1) (fun r_40 u_41 j_u_41 => have i_u_41 := j_u_41.trans i_u_5; (xf_c (xf_r i_u_41))))))) (xf_b2 (F := fun k => wp_X7_goesRow k u_2 x1) (fx_X7_goesRow u_2 x1) (fun r_43 u_44 j_u_44 => have i_u_44 := j_u_44.trans i_u_2; (xf_c (xf_r i_u_44)))))))
set_option maxHeartbeats 4000000 in
theorem fl_X7_goesAll_3_L10  {O : Type} {I : O → Prop} {c0 : Nat → Int32}  {G_post : Int32 → Md → (O → Prop) → Prop} {G_e27 : Md → Int32 → (O → Prop) → Prop} {G_e29 : Md → Int32 → (O → Prop) → Prop} (h_post : ∀ (v0 : Int32) (v1 : Md), v1.2.2.2 2 = c0 → xf (G_post v0 v1) I) (h_e27 : ∀ (v0 : Md) (v1 : Int32), v0.2.2.2 2 = c0 → xf (G_e27 v0 v1) I) (h_e29 : ∀ (v0 : Md) (v1 : Int32), v0.2.2.2 2 = c0 → xf (G_e29 v0 v1) I) : ∀ (n : Nat) (t0 : Md) (z1 : Int32), t0.2.2.2 2 = c0 → xf (fun P : O → Prop => wp_X7_goesAll_3_L10 (fun v0 v1 => G_post v0 v1 P) (fun v0 v1 => G_e27 v0 v1 P) (fun v0 v1 => G_e29 v0 v1 P) n t0 z1) I := by
  intro n
  induction n with
  | zero => exact fun _ _ _ => xf_F
  | succ n10 ih =>
    intro t0 z1 i_t0
    unfold wp_X7_goesAll_3_L10
    exact (xf_b2 (F := fun k => wp_X7_takesByte k t0 (59 : Int32)) (fx_X7_takesByte t0 (59 : Int32)) (fun r_4 u_5 j_u_5 => have i_u_5 := j_u_5.trans i_t0; (xf_p (h_e29 u_5 z1 i_u_5) (xf_b2 (F := fun k => wp_X7_goesOne_3 k u_5 z1) (fx_X7_goesOne_3 u_5 z1) (fun r_7 u_8 j_u_8 => have i_u_8 := j_u_8.trans i_u_5; (xf_n (ih u_8 z1 i_u_8) (h_e27 u_8 z1 i_u_8)))))))
set_option maxHeartbeats 4000000 in
theorem fx_X7_goesAll_3 (s0 : Md) (x1 : Int32) : xf (fun P : (Int32 × Md) → Prop => wp_X7_goesAll_3 (fun a0 a1 => P (a0, a1)) s0 x1) (fun o => o.2.2.2.2 2 = s0.2.2.2 2) := by
  unfold wp_X7_goesAll_3
  exact (xf_b2 (F := fun k => wp_X7_goesOne_3 k s0 x1) (fx_X7_goesOne_3 s0 x1) (fun r_1 u_2 j_u_2 => have i_u_2 := j_u_2.trans rfl; (xf_n (xf_x (fun n10 => (fl_X7_goesAll_3_L10  (fun v0 v1 i_v1 => (xf_r i_v1)) (fun t0 z1 i_t0 => (xf_r i_t0)) (fun t0 z1 i_t0 => (xf_r i_t0)) n10 u_2 x1 i_u_2))) (xf_r i_u_2))))
set_option maxHeartbeats 4000000 in
theorem fl_X7_goesTimes_4_L90  {O : Type} {I : O → Prop} {c0 : Nat → Int32}  {G_post : Int32 → Md → (O → Prop) → Prop} {G_e141 : Md → Int32 → Int32 → Int32 → Int32 → Int32 → (O → Prop) → Prop} (h_post : ∀ (v0 : Int32) (v1 : Md), v1.2.2.2 2 = c0 → xf (G_post v0 v1) I) (h_e141 : ∀ (v0 : Md) (v1 : Int32) (v2 : Int32) (v3 : Int32) (v4 : Int32) (v5 : Int32), v0.2.2.2 2 = c0 → xf (G_e141 v0 v1 v2 v3 v4 v5) I) : ∀ (n : Nat) (t0 : Md) (z1 : Int32) (z2 : Int32) (z3 : Int32) (z4 : Int32) (z5 : Int32), t0.2.2.2 2 = c0 → xf (fun P : O → Prop => wp_X7_goesTimes_4_L90 (fun v0 v1 => G_post v0 v1 P) (fun v0 v1 v2 v3 v4 v5 => G_e141 v0 v1 v2 v3 v4 v5 P) n t0 z1 z2 z3 z4 z5) I := by
  intro n
  induction n with
  | zero => exact fun _ _ _ _ _ _ _ => xf_F
  | succ n90 ih =>
    intro t0 z1 z2 z3 z4 z5 i_t0
    unfold wp_X7_goesTimes_4_L90
    exact (xf_p (xf_p (xf_b2 (F := fun k => wp_X7_goesAll_3 k ((va_up t0.1 6 z4), t0.2.1, t0.2.2.1, t0.2.2.2) (0 : Int32)) (fx_X7_goesAll_3 ((va_up t0.1 6 z4), t0.2.1, t0.2.2.1, t0.2.2.2) (0 : Int32)) (fun r_14 u_15 j_u_15 => have i_u_15 := j_u_15.trans i_t0; (xf_n (ih u_15 z1 z2 z3 z4 (z5 + 1) i_u_15) (h_post 0 u_15 i_u_15)))) (xf_p (xf_b2 (F := fun k => wp_X7_goesAll_3 k ((va_up t0.1 6 z4), t0.2.1, t0.2.2.1, t0.2.2.2) (0 : Int32)) (fx_X7_goesAll_3 ((va_up t0.1 6 z4), t0.2.1, t0.2.2.1, t0.2.2.2) (0 : Int32)) (fun r_18 u_19 j_u_19 => have i_u_19 := j_u_19.trans i_t0; (xf_n (ih u_19 z1 z2 z3 z4 (z5 + 1) i_u_19) (h_post 0 u_19 i_u_19)))) (xf_b2 (F := fun k => wp_X7_goesAll_3 k ((va_up t0.1 6 z4), t0.2.1, t0.2.2.1, t0.2.2.2) (1 : Int32)) (fx_X7_goesAll_3 ((va_up t0.1 6 z4), t0.2.1, t0.2.2.1, t0.2.2.2) (1 : Int32)) (fun r_21 u_22 j_u_22 => have i_u_22 := j_u_22.trans i_t0; (xf_n (ih u_22 z1 z2 z3 z4 (z5 + 1) i_u_22) (h_post 0 u_22 i_u_22)))))) (xf_p (h_e141 t0 z1 z2 z3 z4 z5 i_t0) (xf_p (h_e141 t0 z1 z2 z3 z4 z5 i_t0) (xf_p (xf_b2 (F := fun k => wp_X7_goesAll_3 k ((va_up t0.1 6 z4), t0.2.1, t0.2.2.1, t0.2.2.2) (0 : Int32)) (fx_X7_goesAll_3 ((va_up t0.1 6 z4), t0.2.1, t0.2.2.1, t0.2.2.2) (0 : Int32)) (fun r_27 u_28 j_u_28 => have i_u_28 := j_u_28.trans i_t0; (xf_n (ih u_28 z1 z2 z3 z4 (z5 + 1) i_u_28) (h_post 0 u_28 i_u_28)))) (xf_p (xf_b2 (F := fun k => wp_X7_goesAll_3 k ((va_up t0.1 6 z4), t0.2.1, t0.2.2.1, t0.2.2.2) (0 : Int32)) (fx_X7_goesAll_3 ((va_up t0.1 6 z4), t0.2.1, t0.2.2.1, t0.2.2.2) (0 : Int32)) (fun r_31 u_32 j_u_32 => have i_u_32 := j_u_32.trans i_t0; (xf_n (ih u_32 z1 z2 z3 z4 (z5 + 1) i_u_32) (h_post 0 u_32 i_u_32)))) (xf_b2 (F := fun k => wp_X7_goesAll_3 k ((va_up t0.1 6 z4), t0.2.1, t0.2.2.1, t0.2.2.2) (1 : Int32)) (fx_X7_goesAll_3 ((va_up t0.1 6 z4), t0.2.1, t0.2.2.1, t0.2.2.2) (1 : Int32)) (fun r_34 u_35 j_u_35 => have i_u_35 := j_u_35.trans i_t0; (xf_n (ih u_35 z1 z2 z3 z4 (z5 + 1) i_u_35) (h_post 0 u_35 i_u_35)))))))))
set_option maxHeartbeats 4000000 in
theorem fl_X7_goesTimes_4_L90b  {O : Type} {I : O → Prop} {c0 : Nat → Int32}  {G_post : Int32 → Md → (O → Prop) → Prop} {G_e141 : Md → Int32 → Int32 → Int32 → Int32 → Int32 → (O → Prop) → Prop} (h_post : ∀ (v0 : Int32) (v1 : Md), v1.2.2.2 2 = c0 → xf (G_post v0 v1) I) (h_e141 : ∀ (v0 : Md) (v1 : Int32) (v2 : Int32) (v3 : Int32) (v4 : Int32) (v5 : Int32), v0.2.2.2 2 = c0 → xf (G_e141 v0 v1 v2 v3 v4 v5) I) : ∀ (n : Nat) (t0 : Md) (z1 : Int32) (z2 : Int32) (z3 : Int32) (z4 : Int32) (z5 : Int32), t0.2.2.2 2 = c0 → xf (fun P : O → Prop => wp_X7_goesTimes_4_L90b (fun v0 v1 => G_post v0 v1 P) (fun v0 v1 v2 v3 v4 v5 => G_e141 v0 v1 v2 v3 v4 v5 P) n t0 z1 z2 z3 z4 z5) I := by
  intro n
  induction n with
  | zero => exact fun _ _ _ _ _ _ _ => xf_F
  | succ n90 ih =>
    intro t0 z1 z2 z3 z4 z5 i_t0
    unfold wp_X7_goesTimes_4_L90b
    exact (xf_p (xf_p (xf_b2 (F := fun k => wp_X7_goesAll_3 k ((va_up t0.1 6 z4), t0.2.1, t0.2.2.1, t0.2.2.2) (0 : Int32)) (fx_X7_goesAll_3 ((va_up t0.1 6 z4), t0.2.1, t0.2.2.1, t0.2.2.2) (0 : Int32)) (fun r_48 u_49 j_u_49 => have i_u_49 := j_u_49.trans i_t0; (xf_n (ih u_49 z1 z2 z3 z4 (z5 + 1) i_u_49) (h_post 0 u_49 i_u_49)))) (xf_p (xf_b2 (F := fun k => wp_X7_goesAll_3 k ((va_up t0.1 6 z4), t0.2.1, t0.2.2.1, t0.2.2.2) (0 : Int32)) (fx_X7_goesAll_3 ((va_up t0.1 6 z4), t0.2.1, t0.2.2.1, t0.2.2.2) (0 : Int32)) (fun r_52 u_53 j_u_53 => have i_u_53 := j_u_53.trans i_t0; (xf_n (ih u_53 z1 z2 z3 z4 (z5 + 1) i_u_53) (h_post 0 u_53 i_u_53)))) (xf_b2 (F := fun k => wp_X7_goesAll_3 k ((va_up t0.1 6 z4), t0.2.1, t0.2.2.1, t0.2.2.2) (1 : Int32)) (fx_X7_goesAll_3 ((va_up t0.1 6 z4), t0.2.1, t0.2.2.1, t0.2.2.2) (1 : Int32)) (fun r_55 u_56 j_u_56 => have i_u_56 := j_u_56.trans i_t0; (xf_n (ih u_56 z1 z2 z3 z4 (z5 + 1) i_u_56) (h_post 0 u_56 i_u_56)))))) (xf_p (h_e141 t0 z1 z2 z3 z4 z5 i_t0) (xf_p (h_e141 t0 z1 z2 z3 z4 z5 i_t0) (xf_p (xf_b2 (F := fun k => wp_X7_goesAll_3 k ((va_up t0.1 6 z4), t0.2.1, t0.2.2.1, t0.2.2.2) (0 : Int32)) (fx_X7_goesAll_3 ((va_up t0.1 6 z4), t0.2.1, t0.2.2.1, t0.2.2.2) (0 : Int32)) (fun r_61 u_62 j_u_62 => have i_u_62 := j_u_62.trans i_t0; (xf_n (ih u_62 z1 z2 z3 z4 (z5 + 1) i_u_62) (h_post 0 u_62 i_u_62)))) (xf_p (xf_b2 (F := fun k => wp_X7_goesAll_3 k ((va_up t0.1 6 z4), t0.2.1, t0.2.2.1, t0.2.2.2) (0 : Int32)) (fx_X7_goesAll_3 ((va_up t0.1 6 z4), t0.2.1, t0.2.2.1, t0.2.2.2) (0 : Int32)) (fun r_65 u_66 j_u_66 => have i_u_66 := j_u_66.trans i_t0; (xf_n (ih u_66 z1 z2 z3 z4 (z5 + 1) i_u_66) (h_post 0 u_66 i_u_66)))) (xf_b2 (F := fun k => wp_X7_goesAll_3 k ((va_up t0.1 6 z4), t0.2.1, t0.2.2.1, t0.2.2.2) (1 : Int32)) (fx_X7_goesAll_3 ((va_up t0.1 6 z4), t0.2.1, t0.2.2.1, t0.2.2.2) (1 : Int32)) (fun r_68 u_69 j_u_69 => have i_u_69 := j_u_69.trans i_t0; (xf_n (ih u_69 z1 z2 z3 z4 (z5 + 1) i_u_69) (h_post 0 u_69 i_u_69)))))))))
set_option maxHeartbeats 4000000 in
theorem fx_X7_goesTimes_4 (s0 : Md) (x1 : Int32) : xf (fun P : (Int32 × Md) → Prop => wp_X7_goesTimes_4 (fun a0 a1 => P (a0, a1)) s0 x1) (fun o => o.2.2.2.2 2 = s0.2.2.2 2) := by
  unfold wp_X7_goesTimes_4
  exact (xf_b2 (F := fun k => wp_X7_readsNumber k ((va_up s0.1 6 ((s0.1 6) + 5)), s0.2.1, s0.2.2.1, s0.2.2.2) (0 : Int32) (20 : Int32)) (fx_X7_readsNumber ((va_up s0.1 6 ((s0.1 6) + 5)), s0.2.1, s0.2.2.1, s0.2.2.2) (0 : Int32) (20 : Int32)) (fun r_1 u_2 j_u_2 => have i_u_2 := j_u_2.trans rfl; (xf_n (xf_b2 (F := fun k => wp_X7_nextByte k u_2) (fx_X7_nextByte u_2) (fun r_4 u_5 j_u_5 => have i_u_5 := j_u_5.trans i_u_2; (xf_n (xf_b2 (F := fun k => wp_X7_mustByte k u_5 (40 : Int32)) (fx_X7_mustByte u_5 (40 : Int32)) (fun r_7 u_8 j_u_8 => have i_u_8 := j_u_8.trans i_u_5; (xf_n (xf_b2 (F := fun k => wp_X7_isDone k u_8 x1) (fx_X7_isDone u_8 x1) (fun r_10 u_11 j_u_11 => have i_u_11 := j_u_11.trans i_u_8; (xf_x (fun n90 => (fl_X7_goesTimes_4_L90  (fun v0 v1 i_v1 => (xf_r i_v1)) (fun t0 z1 z2 z3 z4 z5 i_t0 => (xf_b2 (F := fun k => wp_X7_mustByte k t0 (41 : Int32)) (fx_X7_mustByte t0 (41 : Int32)) (fun r_37 u_38 j_u_38 => have i_u_38 := j_u_38.trans i_t0; (xf_n (xf_r i_u_38) (xf_r i_u_38))))) n90 ((va_up u_11.1 14 ((u_11.1 14) + 1)), u_11.2.1, u_11.2.2.1, u_11.2.2.2) x1 (u_2.1 8) r_10 (u_11.1 6) 0 i_u_11))))) (xf_r i_u_8)))) (xf_n (xf_b2 (F := fun k => wp_X7_mustByte k u_5 (40 : Int32)) (fx_X7_mustByte u_5 (40 : Int32)) (fun r_41 u_42 j_u_42 => have i_u_42 := j_u_42.trans i_u_5; (xf_n (xf_b2 (F := fun k => wp_X7_isDone k u_42 x1) (fx_X7_isDone u_42 x1) (fun r_44 u_45 j_u_45 => have i_u_45 := j_u_45.trans i_u_42; (xf_x (fun n90 => (fl_X7_goesTimes_4_L90b  (fun v0 v1 i_v1 => (xf_r i_v1)) (fun t0 z1 z2 z3 z4 z5 i_t0 => (xf_b2 (F := fun k => wp_X7_mustByte k t0 (41 : Int32)) (fx_X7_mustByte t0 (41 : Int32)) (fun r_71 u_72 j_u_72 => have i_u_72 := j_u_72.trans i_t0; (xf_n (xf_r i_u_72) (xf_r i_u_72))))) n90 ((va_up u_45.1 14 ((u_45.1 14) + 1)), u_45.2.1, u_45.2.2.1, u_45.2.2.2) x1 (u_2.1 8) r_44 (u_45.1 6) 0 i_u_45))))) (xf_r i_u_42)))) (xf_b2 (F := fun k => wp_X7_fails k u_5 (3 : Int32) (u_5.1 6)) (fx_X7_fails u_5 (3 : Int32) (u_5.1 6)) (fun r_74 u_75 j_u_75 => have i_u_75 := j_u_75.trans i_u_5; (xf_c (xf_r i_u_75)))))))) (xf_r i_u_2))))
set_option maxHeartbeats 4000000 in
theorem fx_X7_goesOne_4 (s0 : Md) (x1 : Int32) : xf (fun P : (Int32 × Md) → Prop => wp_X7_goesOne_4 (fun a0 a1 => P (a0, a1)) s0 x1) (fun o => o.2.2.2.2 2 = s0.2.2.2 2) := by
  unfold wp_X7_goesOne_4
  exact (xf_b2 (F := fun k => wp_X7_isWord k s0 5) (fx_X7_isWord s0 5) (fun r_1 u_2 j_u_2 => have i_u_2 := j_u_2.trans rfl; (xf_p (xf_b2 (F := fun k => wp_X7_isWord k u_2 7) (fx_X7_isWord u_2 7) (fun r_4 u_5 j_u_5 => have i_u_5 := j_u_5.trans i_u_2; (xf_p (xf_b2 (F := fun k => wp_X7_isWord k u_5 8) (fx_X7_isWord u_5 8) (fun r_7 u_8 j_u_8 => have i_u_8 := j_u_8.trans i_u_5; (xf_p (xf_b2 (F := fun k => wp_X7_isWord k u_8 9) (fx_X7_isWord u_8 9) (fun r_10 u_11 j_u_11 => have i_u_11 := j_u_11.trans i_u_8; (xf_p (xf_b2 (F := fun k => wp_X7_isWord k u_11 10) (fx_X7_isWord u_11 10) (fun r_13 u_14 j_u_14 => have i_u_14 := j_u_14.trans i_u_11; (xf_p (xf_b2 (F := fun k => wp_X7_isWord k u_14 6) (fx_X7_isWord u_14 6) (fun r_16 u_17 j_u_17 => have i_u_17 := j_u_17.trans i_u_14; (xf_p (xf_b2 (F := fun k => wp_X7_isWord k u_17 11) (fx_X7_isWord u_17 11) (fun r_19 u_20 j_u_20 => have i_u_20 := j_u_20.trans i_u_17; (xf_p (xf_b2 (F := fun k => wp_X7_fails k u_20 (1 : Int32) (u_20.1 6)) (fx_X7_fails u_20 (1 : Int32) (u_20.1 6)) (fun r_22 u_23 j_u_23 => have i_u_23 := j_u_23.trans i_u_20; (xf_c (xf_r i_u_23)))) (xf_b2 (F := fun k => wp_X7_goesTimes_4 k u_20 x1) (fx_X7_goesTimes_4 u_20 x1) (fun r_25 u_26 j_u_26 => have i_u_26 := j_u_26.trans i_u_20; (xf_c (xf_r i_u_26))))))) (xf_b2 (F := fun k => wp_X7_goesLose k u_17 x1) (fx_X7_goesLose u_17 x1) (fun r_28 u_29 j_u_29 => have i_u_29 := j_u_29.trans i_u_17; (xf_c (xf_r i_u_29))))))) (xf_b2 (F := fun k => wp_X7_goesSettle k u_14 x1) (fx_X7_goesSettle u_14 x1) (fun r_31 u_32 j_u_32 => have i_u_32 := j_u_32.trans i_u_14; (xf_c (xf_r i_u_32))))))) (xf_b2 (F := fun k => wp_X7_goesWait k u_11 x1) (fx_X7_goesWait u_11 x1) (fun r_34 u_35 j_u_35 => have i_u_35 := j_u_35.trans i_u_11; (xf_c (xf_r i_u_35))))))) (xf_b2 (F := fun k => wp_X7_goesHome k u_8 x1) (fx_X7_goesHome u_8 x1) (fun r_37 u_38 j_u_38 => have i_u_38 := j_u_38.trans i_u_8; (xf_c (xf_r i_u_38))))))) (xf_b2 (F := fun k => wp_X7_goesScroll k u_5 x1) (fx_X7_goesScroll u_5 x1) (fun r_40 u_41 j_u_41 => have i_u_41 := j_u_41.trans i_u_5; (xf_c (xf_r i_u_41))))))) (xf_b2 (F := fun k => wp_X7_goesRow k u_2 x1) (fx_X7_goesRow u_2 x1) (fun r_43 u_44 j_u_44 => have i_u_44 := j_u_44.trans i_u_2; (xf_c (xf_r i_u_44)))))))
set_option maxHeartbeats 4000000 in
theorem fl_X7_goesAll_4_L10  {O : Type} {I : O → Prop} {c0 : Nat → Int32}  {G_post : Int32 → Md → (O → Prop) → Prop} {G_e27 : Md → Int32 → (O → Prop) → Prop} {G_e29 : Md → Int32 → (O → Prop) → Prop} (h_post : ∀ (v0 : Int32) (v1 : Md), v1.2.2.2 2 = c0 → xf (G_post v0 v1) I) (h_e27 : ∀ (v0 : Md) (v1 : Int32), v0.2.2.2 2 = c0 → xf (G_e27 v0 v1) I) (h_e29 : ∀ (v0 : Md) (v1 : Int32), v0.2.2.2 2 = c0 → xf (G_e29 v0 v1) I) : ∀ (n : Nat) (t0 : Md) (z1 : Int32), t0.2.2.2 2 = c0 → xf (fun P : O → Prop => wp_X7_goesAll_4_L10 (fun v0 v1 => G_post v0 v1 P) (fun v0 v1 => G_e27 v0 v1 P) (fun v0 v1 => G_e29 v0 v1 P) n t0 z1) I := by
  intro n
  induction n with
  | zero => exact fun _ _ _ => xf_F
  | succ n10 ih =>
    intro t0 z1 i_t0
    unfold wp_X7_goesAll_4_L10
    exact (xf_b2 (F := fun k => wp_X7_takesByte k t0 (59 : Int32)) (fx_X7_takesByte t0 (59 : Int32)) (fun r_4 u_5 j_u_5 => have i_u_5 := j_u_5.trans i_t0; (xf_p (h_e29 u_5 z1 i_u_5) (xf_b2 (F := fun k => wp_X7_goesOne_4 k u_5 z1) (fx_X7_goesOne_4 u_5 z1) (fun r_7 u_8 j_u_8 => have i_u_8 := j_u_8.trans i_u_5; (xf_n (ih u_8 z1 i_u_8) (h_e27 u_8 z1 i_u_8)))))))
set_option maxHeartbeats 4000000 in
theorem fx_X7_goesAll_4 (s0 : Md) (x1 : Int32) : xf (fun P : (Int32 × Md) → Prop => wp_X7_goesAll_4 (fun a0 a1 => P (a0, a1)) s0 x1) (fun o => o.2.2.2.2 2 = s0.2.2.2 2) := by
  unfold wp_X7_goesAll_4
  exact (xf_b2 (F := fun k => wp_X7_goesOne_4 k s0 x1) (fx_X7_goesOne_4 s0 x1) (fun r_1 u_2 j_u_2 => have i_u_2 := j_u_2.trans rfl; (xf_n (xf_x (fun n10 => (fl_X7_goesAll_4_L10  (fun v0 v1 i_v1 => (xf_r i_v1)) (fun t0 z1 i_t0 => (xf_r i_t0)) (fun t0 z1 i_t0 => (xf_r i_t0)) n10 u_2 x1 i_u_2))) (xf_r i_u_2))))
set_option maxHeartbeats 4000000 in
theorem fx_X7_goesProgram (s0 : Md) (x1 : Int32) : xf (fun P : (Int32 × Md) → Prop => wp_X7_goesProgram (fun a0 a1 => P (a0, a1)) s0 x1) (fun o => o.2.2.2.2 2 = s0.2.2.2 2) := by
  unfold wp_X7_goesProgram
  exact (xf_b2 (F := fun k => wp_X7_goesAll_4 k ((va_up (va_up (va_up s0.1 6 0) 13 0) 14 0), s0.2.1, s0.2.2.1, s0.2.2.2) x1) (fx_X7_goesAll_4 ((va_up (va_up (va_up s0.1 6 0) 13 0) 14 0), s0.2.1, s0.2.2.1, s0.2.2.2) x1) (fun r_1 u_2 j_u_2 => have i_u_2 := j_u_2.trans rfl; (xf_n (xf_b2 (F := fun k => wp_X7_nextByte k u_2) (fx_X7_nextByte u_2) (fun r_4 u_5 j_u_5 => have i_u_5 := j_u_5.trans i_u_2; (xf_p (xf_r i_u_5) (xf_b2 (F := fun k => wp_X7_fails k u_5 (1 : Int32) (u_5.1 6)) (fx_X7_fails u_5 (1 : Int32) (u_5.1 6)) (fun r_7 u_8 j_u_8 => have i_u_8 := j_u_8.trans i_u_5; (xf_p (xf_r i_u_8) (xf_r i_u_8))))))) (xf_r i_u_2))))
set_option maxHeartbeats 4000000 in
theorem fx_X7_run (s0 : Md) : xf (fun P : (Int32 × Md) → Prop => wp_X7_run (fun a0 a1 => P (a0, a1)) s0) (fun o => o.2.2.2.2 2 = s0.2.2.2 2) := by
  unfold wp_X7_run
  exact (xf_b1 (F := fun k => wp_X7_isBoard k s0) (xf_dt (dt_X7_isBoard s0)) (fun r_1 _ => (xf_p (xf_b1 (F := fun k => wp_X7_isBoard k ((va_up s0.1 5 0), s0.2.1, s0.2.2.1, s0.2.2.2)) (xf_dt (dt_X7_isBoard ((va_up s0.1 5 0), s0.2.1, s0.2.2.1, s0.2.2.2))) (fun r_4 _ => (xf_n (xf_r rfl) (xf_r rfl)))) (xf_b2 (F := fun k => wp_X7_goesProgram k s0 (0 : Int32)) (fx_X7_goesProgram s0 (0 : Int32)) (fun r_7 u_8 j_u_8 => have i_u_8 := j_u_8.trans rfl; (xf_p (xf_b1 (F := fun k => wp_X7_isBoard k ((va_up u_8.1 5 0), u_8.2.1, u_8.2.2.1, u_8.2.2.2)) (xf_dt (dt_X7_isBoard ((va_up u_8.1 5 0), u_8.2.1, u_8.2.2.1, u_8.2.2.2))) (fun r_10 _ => (xf_n (xf_r i_u_8) (xf_r i_u_8)))) (xf_b1 (F := fun k => wp_X7_keepsAct k u_8) (fx_X7_keepsAct u_8) (fun u_14 j_u_14 => have i_u_14 := j_u_14.trans i_u_8; (xf_b2 (F := fun k => wp_X7_goesProgram k u_14 (1 : Int32)) (fx_X7_goesProgram u_14 (1 : Int32)) (fun r_15 u_16 j_u_16 => have i_u_16 := j_u_16.trans i_u_14; (xf_b1 (F := fun k => wp_X7_isBoard k ((va_up u_16.1 5 0), u_16.2.1, u_16.2.2.1, u_16.2.2.2)) (xf_dt (dt_X7_isBoard ((va_up u_16.1 5 0), u_16.2.1, u_16.2.2.1, u_16.2.2.2))) (fun r_17 _ => (xf_n (xf_p (xf_r i_u_16) (xf_r i_u_16)) (xf_r i_u_16))))))))))))))
set_option maxHeartbeats 4000000 in
theorem fl_X7_loudest_L31  {O : Type} {I : O → Prop} {c0 : Nat → Int32}  {G_post : Int32 → Md → (O → Prop) → Prop} {G_e63 : Md → Int32 → Int32 → Int32 → Int32 → (O → Prop) → Prop} (h_post : ∀ (v0 : Int32) (v1 : Md), v1.2.2.2 2 = c0 → xf (G_post v0 v1) I) (h_e63 : ∀ (v0 : Md) (v1 : Int32) (v2 : Int32) (v3 : Int32) (v4 : Int32), v0.2.2.2 2 = c0 → xf (G_e63 v0 v1 v2 v3 v4) I) : ∀ (n : Nat) (t0 : Md) (z1 : Int32) (z2 : Int32) (z3 : Int32) (z4 : Int32), t0.2.2.2 2 = c0 → xf (fun P : O → Prop => wp_X7_loudest_L31 (fun v0 v1 => G_post v0 v1 P) (fun v0 v1 v2 v3 v4 => G_e63 v0 v1 v2 v3 v4 P) n t0 z1 z2 z3 z4) I := by
  intro n
  induction n with
  | zero => exact fun _ _ _ _ _ _ => xf_F
  | succ n31 ih =>
    intro t0 z1 z2 z3 z4 i_t0
    unfold wp_X7_loudest_L31
    exact (xf_b2 (F := fun k => wp_X7_ticks k t0) (fx_X7_ticks t0) (fun r_9 u_10 j_u_10 => have i_u_10 := j_u_10.trans i_t0; (xf_p (h_e63 u_10 z1 z2 z3 z4 i_u_10) (xf_p (ih u_10 z1 z4 (u_10.1 1) (z4 + 1) i_u_10) (ih u_10 z1 z2 z3 (z4 + 1) i_u_10)))))
set_option maxHeartbeats 4000000 in
theorem fx_X7_loudest (s0 : Md) (x1 : Int32) : xf (fun P : (Int32 × Md) → Prop => wp_X7_loudest (fun a0 a1 => P (a0, a1)) s0 x1) (fun o => o.2.2.2.2 2 = s0.2.2.2 2) := by
  unfold wp_X7_loudest
  exact (xf_b1 (F := fun k => wp_X7_isBoard k s0) (xf_dt (dt_X7_isBoard s0)) (fun r_1 _ => (xf_p (xf_r rfl) (xf_b1 (F := fun k => wp_X7_in k (Int32.toInt64 x1) (0 : Int64) (1 : Int64)) (xf_dt (dt_X7_in (Int32.toInt64 x1) (0 : Int64) (1 : Int64))) (fun r_4 _ => (xf_n (xf_b1 (F := fun k => wp_X7_putsAside k s0) (fx_X7_putsAside s0) (fun u_8 j_u_8 => have i_u_8 := j_u_8.trans rfl; (xf_x (fun n31 => (fl_X7_loudest_L31  (fun v0 v1 i_v1 => (xf_r i_v1)) (fun t0 z1 z2 z3 z4 i_t0 => (xf_b1 (F := fun k => wp_X7_takesBack k t0) (fx_X7_takesBack t0) (fun u_14 j_u_14 => have i_u_14 := j_u_14.trans i_t0; (xf_p (xf_r i_u_14) (xf_n (xf_r i_u_14) (xf_r i_u_14)))))) n31 u_8 x1 (-2) 0 0 i_u_8))))) (xf_r rfl)))))))

set_option maxHeartbeats 4000000 in
theorem ft_X5_startReading (s0 : Tp) : xf (fun P : Tp → Prop => wp_X5_startReading (fun a0 => P a0) s0) (fun o => o.2 = s0.2) := by
  unfold wp_X5_startReading
  exact (xf_r rfl)
set_option maxHeartbeats 4000000 in
theorem fm_X5_peek_L0  {O : Type} {I : O → Prop} {c0 : Nat → Int32}  {G_post : Int32 → Tp → (O → Prop) → Prop} {G_e38 : Tp → (O → Prop) → Prop} (h_post : ∀ (v0 : Int32) (v1 : Tp), v1.2 = c0 → xf (G_post v0 v1) I) (h_e38 : ∀ (v0 : Tp), v0.2 = c0 → xf (G_e38 v0) I) : ∀ (n : Nat) (t0 : Tp), t0.2 = c0 → xf (fun P : O → Prop => wp_X5_peek_L0 (fun v0 v1 => G_post v0 v1 P) (fun v0 => G_e38 v0 P) n t0) I := by
  intro n
  induction n with
  | zero => exact fun _ _ => xf_F
  | succ n0 ih =>
    intro t0 i_t0
    unfold wp_X5_peek_L0
    exact (xf_p (h_e38 t0 i_t0) (xf_c (xf_n (h_e38 t0 i_t0) (ih ((va_up t0.1 1 ((t0.1 1) + 1)), t0.2) i_t0))))
set_option maxHeartbeats 4000000 in
theorem ft_X5_peek (s0 : Tp) : xf (fun P : (Int32 × Tp) → Prop => wp_X5_peek (fun a0 a1 => P (a0, a1)) s0) (fun o => o.2.2 = s0.2) := by
  unfold wp_X5_peek
  exact (xf_x (fun n0 => (fm_X5_peek_L0  (fun v0 v1 i_v1 => (xf_r i_v1)) (fun t0 i_t0 => (xf_p (xf_r i_t0) (xf_c (xf_r i_t0)))) n0 s0 rfl)))
set_option maxHeartbeats 4000000 in
theorem fm_X5_takeWord_L13  {O : Type} {I : O → Prop} {c0 : Nat → Int32}  {G_post : Int32 → Tp → (O → Prop) → Prop} {G_e63 : Tp → (O → Prop) → Prop} (h_post : ∀ (v0 : Int32) (v1 : Tp), v1.2 = c0 → xf (G_post v0 v1) I) (h_e63 : ∀ (v0 : Tp), v0.2 = c0 → xf (G_e63 v0) I) : ∀ (n : Nat) (t0 : Tp), t0.2 = c0 → xf (fun P : O → Prop => wp_X5_takeWord_L13 (fun v0 v1 => G_post v0 v1 P) (fun v0 => G_e63 v0 P) n t0) I := by
  intro n
  induction n with
  | zero => exact fun _ _ => xf_F
  | succ n13 ih =>
    intro t0 i_t0
    unfold wp_X5_takeWord_L13
    exact (xf_p (h_e63 t0 i_t0) (xf_b1 (F := fun k => wp_X5_byteAt k t0 (t0.1 1)) (xf_dt (dt_X5_byteAt t0 (t0.1 1))) (fun r_4 _ => (xf_p (h_e63 t0 i_t0) (xf_b1 (F := fun k => wp_X5_byteAt k t0 (t0.1 1)) (xf_dt (dt_X5_byteAt t0 (t0.1 1))) (fun r_7 _ => (xf_p (h_e63 t0 i_t0) (ih ((va_up t0.1 1 ((t0.1 1) + 1)), t0.2) i_t0))))))))
set_option maxHeartbeats 4000000 in
theorem ft_X5_takeWord (s0 : Tp) : xf (fun P : (Int32 × Tp) → Prop => wp_X5_takeWord (fun a0 a1 => P (a0, a1)) s0) (fun o => o.2.2 = s0.2) := by
  unfold wp_X5_takeWord
  exact (xf_b2 (F := fun k => wp_X5_peek k s0) (ft_X5_peek s0) (fun r_1 u_2 j_u_2 => have i_u_2 := j_u_2.trans rfl; (xf_x (fun n13 => (fm_X5_takeWord_L13  (fun v0 v1 i_v1 => (xf_r i_v1)) (fun t0 i_t0 => (xf_b1 (F := fun k => wp_X5_wordRead k t0) (xf_dt (dt_X5_wordRead t0)) (fun r_10 _ => (xf_r i_t0)))) n13 ((va_up u_2.1 2 (u_2.1 1)), u_2.2) i_u_2)))))
set_option maxHeartbeats 4000000 in
theorem ft_X5_blame (s0 : Tp) (x1 : Int32) (x2 : Int32) : xf (fun P : Tp → Prop => wp_X5_blame (fun a0 => P a0) s0 x1 x2) (fun o => o.2 = s0.2) := by
  unfold wp_X5_blame
  exact (xf_n (xf_r rfl) (xf_r rfl))
set_option maxHeartbeats 4000000 in
theorem ft_X5_takeThisWord (s0 : Tp) (x1 : Int32) : xf (fun P : Tp → Prop => wp_X5_takeThisWord (fun a0 => P a0) s0 x1) (fun o => o.2 = s0.2) := by
  unfold wp_X5_takeThisWord
  exact (xf_b2 (F := fun k => wp_X5_takeWord k s0) (ft_X5_takeWord s0) (fun r_1 u_2 j_u_2 => have i_u_2 := j_u_2.trans rfl; (xf_p (xf_r i_u_2) (xf_b1 (F := fun k => wp_X5_blame k u_2 (u_2.1 2) (1 : Int32)) (ft_X5_blame u_2 (u_2.1 2) (1 : Int32)) (fun u_5 j_u_5 => have i_u_5 := j_u_5.trans i_u_2; (xf_r i_u_5))))))
set_option maxHeartbeats 4000000 in
theorem fm_X5_takeNumber_L15  {O : Type} {I : O → Prop} {c0 : Nat → Int32}  {G_post : Int32 → Tp → (O → Prop) → Prop} {G_e88 : Tp → Int32 → Int32 → Int32 → (O → Prop) → Prop} (h_post : ∀ (v0 : Int32) (v1 : Tp), v1.2 = c0 → xf (G_post v0 v1) I) (h_e88 : ∀ (v0 : Tp) (v1 : Int32) (v2 : Int32) (v3 : Int32), v0.2 = c0 → xf (G_e88 v0 v1 v2 v3) I) : ∀ (n : Nat) (t0 : Tp) (z1 : Int32) (z2 : Int32) (z3 : Int32), t0.2 = c0 → xf (fun P : O → Prop => wp_X5_takeNumber_L15 (fun v0 v1 => G_post v0 v1 P) (fun v0 v1 v2 v3 => G_e88 v0 v1 v2 v3 P) n t0 z1 z2 z3) I := by
  intro n
  induction n with
  | zero => exact fun _ _ _ _ _ => xf_F
  | succ n15 ih =>
    intro t0 z1 z2 z3 i_t0
    unfold wp_X5_takeNumber_L15
    exact (xf_p (h_e88 t0 z1 z2 z3 i_t0) (xf_b1 (F := fun k => wp_X5_byteAt k t0 (t0.1 1)) (xf_dt (dt_X5_byteAt t0 (t0.1 1))) (fun r_4 _ => (xf_p (h_e88 t0 z1 z2 z3 i_t0) (xf_b1 (F := fun k => wp_X5_byteAt k t0 (t0.1 1)) (xf_dt (dt_X5_byteAt t0 (t0.1 1))) (fun r_7 _ => (xf_p (h_e88 t0 z1 z2 z3 i_t0) (xf_b1 (F := fun k => wp_X5_byteAt k t0 (t0.1 1)) (xf_dt (dt_X5_byteAt t0 (t0.1 1))) (fun r_10 _ => (ih ((va_up t0.1 1 ((t0.1 1) + 1)), t0.2) z1 z2 (if ((((z3 * 10) + r_10) - 48) < (1000 : Int32)) then (((z3 * 10) + r_10) - 48) else (1000 : Int32)) i_t0))))))))))
set_option maxHeartbeats 4000000 in
theorem ft_X5_takeNumber (s0 : Tp) (x1 : Int32) (x2 : Int32) : xf (fun P : (Int32 × Tp) → Prop => wp_X5_takeNumber (fun a0 a1 => P (a0, a1)) s0 x1 x2) (fun o => o.2.2 = s0.2) := by
  unfold wp_X5_takeNumber
  exact (xf_b2 (F := fun k => wp_X5_peek k s0) (ft_X5_peek s0) (fun r_1 u_2 j_u_2 => have i_u_2 := j_u_2.trans rfl; (xf_x (fun n15 => (fm_X5_takeNumber_L15  (fun v0 v1 i_v1 => (xf_r i_v1)) (fun t0 z1 z2 z3 i_t0 => (xf_n (xf_p (xf_b1 (F := fun k => wp_X5_blame k t0 (t0.1 2) (2 : Int32)) (ft_X5_blame t0 (t0.1 2) (2 : Int32)) (fun u_15 j_u_15 => have i_u_15 := j_u_15.trans i_t0; (xf_r i_u_15))) (xf_p (xf_r i_t0) (xf_b1 (F := fun k => wp_X5_blame k t0 (t0.1 2) (2 : Int32)) (ft_X5_blame t0 (t0.1 2) (2 : Int32)) (fun u_18 j_u_18 => have i_u_18 := j_u_18.trans i_t0; (xf_r i_u_18))))) (xf_b1 (F := fun k => wp_X5_blame k t0 (t0.1 1) (1 : Int32)) (ft_X5_blame t0 (t0.1 1) (1 : Int32)) (fun u_20 j_u_20 => have i_u_20 := j_u_20.trans i_t0; (xf_r i_u_20))))) n15 ((va_up u_2.1 2 (u_2.1 1)), u_2.2) x1 x2 0 i_u_2)))))
set_option maxHeartbeats 4000000 in
theorem ft_X1_readHead (s0 : Bd) (s1 : Tp) : xf (fun P : (Bd × Tp) → Prop => wp_X1_readHead (fun a0 a1 => P (a0, a1)) s0 s1) (fun o => o.2.2 = s1.2) := by
  unfold wp_X1_readHead
  exact (xf_b1 (F := fun k => wp_X5_takeThisWord k s1 (1 : Int32)) (ft_X5_takeThisWord s1 (1 : Int32)) (fun u_2 j_u_2 => have i_u_2 := j_u_2.trans rfl; (xf_b2 (F := fun k => wp_X5_takeNumber k u_2 (1 : Int32) (6 : Int32)) (ft_X5_takeNumber u_2 (1 : Int32) (6 : Int32)) (fun r_3 u_4 j_u_4 => have i_u_4 := j_u_4.trans i_u_2; (xf_p (xf_b2 (F := fun k => wp_X5_takeNumber k u_4 (1 : Int32) (0 : Int32)) (ft_X5_takeNumber u_4 (1 : Int32) (0 : Int32)) (fun r_6 u_7 j_u_7 => have i_u_7 := j_u_7.trans i_u_4; (xf_b1 (F := fun k => wp_X5_takeThisWord k u_7 (2 : Int32)) (ft_X5_takeThisWord u_7 (2 : Int32)) (fun u_9 j_u_9 => have i_u_9 := j_u_9.trans i_u_7; (xf_b2 (F := fun k => wp_X5_takeNumber k u_9 (1 : Int32) (99 : Int32)) (ft_X5_takeNumber u_9 (1 : Int32) (99 : Int32)) (fun r_10 u_11 j_u_11 => have i_u_11 := j_u_11.trans i_u_9; (xf_b1 (F := fun k => wp_X5_isSound k u_11) (xf_dt (dt_X5_isSound u_11)) (fun r_12 _ => (xf_p (xf_r i_u_11) (xf_r i_u_11)))))))))) (xf_c (xf_b2 (F := fun k => wp_X5_takeNumber k u_4 (1 : Int32) (if ((40 / r_3) < (10 : Int32)) then (40 / r_3) else (10 : Int32))) (ft_X5_takeNumber u_4 (1 : Int32) (if ((40 / r_3) < (10 : Int32)) then (40 / r_3) else (10 : Int32))) (fun r_16 u_17 j_u_17 => have i_u_17 := j_u_17.trans i_u_4; (xf_b1 (F := fun k => wp_X5_takeThisWord k u_17 (2 : Int32)) (ft_X5_takeThisWord u_17 (2 : Int32)) (fun u_19 j_u_19 => have i_u_19 := j_u_19.trans i_u_17; (xf_b2 (F := fun k => wp_X5_takeNumber k u_19 (1 : Int32) (99 : Int32)) (ft_X5_takeNumber u_19 (1 : Int32) (99 : Int32)) (fun r_20 u_21 j_u_21 => have i_u_21 := j_u_21.trans i_u_19; (xf_b1 (F := fun k => wp_X5_isSound k u_21) (xf_dt (dt_X5_isSound u_21)) (fun r_22 _ => (xf_p (xf_r i_u_21) (xf_r i_u_21))))))))))))))))
set_option maxHeartbeats 4000000 in
theorem ft_X5_takeByte (s0 : Tp) (x1 : Int32) : xf (fun P : Tp → Prop => wp_X5_takeByte (fun a0 => P a0) s0 x1) (fun o => o.2 = s0.2) := by
  unfold wp_X5_takeByte
  exact (xf_b2 (F := fun k => wp_X5_peek k s0) (ft_X5_peek s0) (fun r_1 u_2 j_u_2 => have i_u_2 := j_u_2.trans rfl; (xf_n (xf_b1 (F := fun k => wp_X5_blame k u_2 (u_2.1 1) (1 : Int32)) (ft_X5_blame u_2 (u_2.1 1) (1 : Int32)) (fun u_5 j_u_5 => have i_u_5 := j_u_5.trans i_u_2; (xf_r i_u_5))) (xf_r i_u_2))))
set_option maxHeartbeats 4000000 in
theorem fm_X5_takeQuoted_L14  {O : Type} {I : O → Prop} {c0 : Nat → Int32}  {G_post : Tp → (O → Prop) → Prop} {G_e106 : Tp → Int32 → Int32 → (O → Prop) → Prop} (h_post : ∀ (v0 : Tp), v0.2 = c0 → xf (G_post v0) I) (h_e106 : ∀ (v0 : Tp) (v1 : Int32) (v2 : Int32), v0.2 = c0 → xf (G_e106 v0 v1 v2) I) : ∀ (n : Nat) (t0 : Tp) (z1 : Int32) (z2 : Int32), t0.2 = c0 → xf (fun P : O → Prop => wp_X5_takeQuoted_L14 (fun v0 => G_post v0 P) (fun v0 v1 v2 => G_e106 v0 v1 v2 P) n t0 z1 z2) I := by
  intro n
  induction n with
  | zero => exact fun _ _ _ _ => xf_F
  | succ n14 ih =>
    intro t0 z1 z2 i_t0
    unfold wp_X5_takeQuoted_L14
    exact (xf_p (h_e106 t0 z1 z2 i_t0) (xf_b1 (F := fun k => wp_X5_isSound k t0) (xf_dt (dt_X5_isSound t0)) (fun r_4 _ => (xf_p (h_e106 t0 z1 z2 i_t0) (xf_b1 (F := fun k => wp_X5_byteAt k t0 (t0.1 1)) (xf_dt (dt_X5_byteAt t0 (t0.1 1))) (fun r_7 _ => (xf_p (h_e106 t0 z1 z2 i_t0) (xf_b1 (F := fun k => wp_X5_byteAt k t0 (t0.1 1)) (xf_dt (dt_X5_byteAt t0 (t0.1 1))) (fun r_10 _ => (xf_b1 (F := fun k => wp_X6_isSign k r_10) (xf_dt (dt_X6_isSign r_10)) (fun r_12 _ => (xf_n (xf_p (ih ((va_up t0.1 1 ((t0.1 1) + 1)), t0.2) z1 z2 i_t0) (xf_b1 (F := fun k => wp_X5_blame k t0 (t0.1 1) (2 : Int32)) (ft_X5_blame t0 (t0.1 1) (2 : Int32)) (fun u_17 j_u_17 => have i_u_17 := j_u_17.trans i_t0; (ih ((va_up u_17.1 1 ((u_17.1 1) + 1)), u_17.2) z1 z2 i_u_17)))) (xf_b1 (F := fun k => wp_X5_blame k t0 (t0.1 1) (1 : Int32)) (ft_X5_blame t0 (t0.1 1) (1 : Int32)) (fun u_19 j_u_19 => have i_u_19 := j_u_19.trans i_t0; (ih ((va_up u_19.1 1 ((u_19.1 1) + 1)), u_19.2) z1 z2 i_u_19)))))))))))))))
set_option maxHeartbeats 4000000 in
theorem ft_X5_takeQuoted (s0 : Tp) (x1 : Int32) (x2 : Int32) : xf (fun P : Tp → Prop => wp_X5_takeQuoted (fun a0 => P a0) s0 x1 x2) (fun o => o.2 = s0.2) := by
  unfold wp_X5_takeQuoted
  exact (xf_b1 (F := fun k => wp_X5_takeByte k s0 (39 : Int32)) (ft_X5_takeByte s0 (39 : Int32)) (fun u_2 j_u_2 => have i_u_2 := j_u_2.trans rfl; (xf_x (fun n14 => (fm_X5_takeQuoted_L14  (fun v0 i_v0 => (xf_r i_v0)) (fun t0 z1 z2 i_t0 => (xf_p (xf_p (xf_r i_t0) (xf_b1 (F := fun k => wp_X5_blame k ((va_up t0.1 4 ((t0.1 1) - (t0.1 3))), t0.2) (t0.1 1) (2 : Int32)) (ft_X5_blame ((va_up t0.1 4 ((t0.1 1) - (t0.1 3))), t0.2) (t0.1 1) (2 : Int32)) (fun u_23 j_u_23 => have i_u_23 := j_u_23.trans i_t0; (xf_r i_u_23)))) (xf_b1 (F := fun k => wp_X5_blame k ((va_up t0.1 4 ((t0.1 1) - (t0.1 3))), t0.2) (t0.1 0) (1 : Int32)) (ft_X5_blame ((va_up t0.1 4 ((t0.1 1) - (t0.1 3))), t0.2) (t0.1 0) (1 : Int32)) (fun u_25 j_u_25 => have i_u_25 := j_u_25.trans i_t0; (xf_r i_u_25))))) n14 ((va_up u_2.1 3 (u_2.1 1)), u_2.2) x1 x2 i_u_2)))))
set_option maxHeartbeats 4000000 in
theorem ft_X1_readDrum (s0 : Bd) (s1 : Tp) : xf (fun P : (Bd × Tp) → Prop => wp_X1_readDrum (fun a0 a1 => P (a0, a1)) s0 s1) (fun o => o.2.2 = s1.2) := by
  unfold wp_X1_readDrum
  exact (xf_b2 (F := fun k => wp_X5_takeNumber k s1 (1 : Int32) (9 : Int32)) (ft_X5_takeNumber s1 (1 : Int32) (9 : Int32)) (fun r_1 u_2 j_u_2 => have i_u_2 := j_u_2.trans rfl; (xf_b1 (F := fun k => wp_X5_takeQuoted k u_2 (2 : Int32) (40 : Int32)) (ft_X5_takeQuoted u_2 (2 : Int32) (40 : Int32)) (fun u_4 j_u_4 => have i_u_4 := j_u_4.trans i_u_2; (xf_b1 (F := fun k => wp_X5_isSound k u_4) (xf_dt (dt_X5_isSound u_4)) (fun r_5 _ => (xf_p (xf_r i_u_4) (xf_b1 (F := fun k => wp_X0_addDrum k s0 u_4 r_1 (u_4.1 3) (u_4.1 4)) (xf_dt (dt_X0_addDrum s0 u_4 r_1 (u_4.1 3) (u_4.1 4))) (fun u_9 _ => (xf_r i_u_4))))))))))
set_option maxHeartbeats 4000000 in
theorem fm_X1_readCells_L38  {O : Type} {I : O → Prop} {c0 : Nat → Int32}  {G_post : Bd → Tp → (O → Prop) → Prop} {G_e66 : Bd → Tp → Int32 → Int32 → Int32 → Int32 → Int32 → (O → Prop) → Prop} (h_post : ∀ (v0 : Bd) (v1 : Tp), v1.2 = c0 → xf (G_post v0 v1) I) (h_e66 : ∀ (v0 : Bd) (v1 : Tp) (v2 : Int32) (v3 : Int32) (v4 : Int32) (v5 : Int32) (v6 : Int32), v1.2 = c0 → xf (G_e66 v0 v1 v2 v3 v4 v5 v6) I) : ∀ (n : Nat) (t0 : Bd) (t1 : Tp) (z2 : Int32) (z3 : Int32) (z4 : Int32) (z5 : Int32) (z6 : Int32), t1.2 = c0 → xf (fun P : O → Prop => wp_X1_readCells_L38 (fun v0 v1 => G_post v0 v1 P) (fun v0 v1 v2 v3 v4 v5 v6 => G_e66 v0 v1 v2 v3 v4 v5 v6 P) n t0 t1 z2 z3 z4 z5 z6) I := by
  intro n
  induction n with
  | zero => exact fun _ _ _ _ _ _ _ _ => xf_F
  | succ n38 ih =>
    intro t0 t1 z2 z3 z4 z5 z6 i_t1
    unfold wp_X1_readCells_L38
    exact (xf_p (h_e66 t0 t1 z2 z3 z4 z5 z6 i_t1) (xf_b1 (F := fun k => wp_X5_isSound k t1) (xf_dt (dt_X5_isSound t1)) (fun r_10 _ => (xf_p (h_e66 t0 t1 z2 z3 z4 z5 z6 i_t1) (xf_b1 (F := fun k => wp_X0_makeCell k t0 z6 z5) (xf_dt (dt_X0_makeCell t0 z6 z5)) (fun u_14 _ => (ih u_14 t1 z2 z3 z4 z5 (z6 + 1) i_t1)))))))
set_option maxHeartbeats 4000000 in
theorem ft_X1_readCells (s0 : Bd) (s1 : Tp) : xf (fun P : (Bd × Tp) → Prop => wp_X1_readCells (fun a0 a1 => P (a0, a1)) s0 s1) (fun o => o.2.2 = s1.2) := by
  unfold wp_X1_readCells
  exact (xf_b1 (F := fun k => wp_X0_cells k s0) (xf_dt (dt_X0_cells s0)) (fun r_1 _ => (xf_b2 (F := fun k => wp_X5_takeNumber k s1 (0 : Int32) (r_1 - 1)) (ft_X5_takeNumber s1 (0 : Int32) (r_1 - 1)) (fun r_3 u_4 j_u_4 => have i_u_4 := j_u_4.trans rfl; (xf_b2 (F := fun k => wp_X5_takeNumber k u_4 r_3 (r_1 - 1)) (ft_X5_takeNumber u_4 r_3 (r_1 - 1)) (fun r_5 u_6 j_u_6 => have i_u_6 := j_u_6.trans i_u_4; (xf_b2 (F := fun k => wp_X5_takeNumber k u_6 (0 : Int32) ((s0.1 3) - 1)) (ft_X5_takeNumber u_6 (0 : Int32) ((s0.1 3) - 1)) (fun r_7 u_8 j_u_8 => have i_u_8 := j_u_8.trans i_u_6; (xf_x (fun n38 => (fm_X1_readCells_L38  (fun v0 v1 i_v1 => (xf_r i_v1)) (fun t0 t1 z2 z3 z4 z5 z6 i_t1 => (xf_r i_t1)) n38 s0 u_8 (r_1 - 1) r_3 r_5 r_7 r_3 i_u_8)))))))))))
set_option maxHeartbeats 4000000 in
theorem ft_X1_readWorn (s0 : Bd) (s1 : Tp) : xf (fun P : (Bd × Tp) → Prop => wp_X1_readWorn (fun a0 a1 => P (a0, a1)) s0 s1) (fun o => o.2.2 = s1.2) := by
  unfold wp_X1_readWorn
  exact (xf_b1 (F := fun k => wp_X0_cells k s0) (xf_dt (dt_X0_cells s0)) (fun r_1 _ => (xf_b2 (F := fun k => wp_X5_takeNumber k s1 (0 : Int32) (r_1 - 1)) (ft_X5_takeNumber s1 (0 : Int32) (r_1 - 1)) (fun r_3 u_4 j_u_4 => have i_u_4 := j_u_4.trans rfl; (xf_b1 (F := fun k => wp_X0_flapsOf k s0 r_3) (xf_dt (dt_X0_flapsOf s0 r_3)) (fun r_5 _ => (xf_b2 (F := fun k => wp_X5_takeNumber k u_4 (1 : Int32) (r_5 - 1)) (ft_X5_takeNumber u_4 (1 : Int32) (r_5 - 1)) (fun r_7 u_8 j_u_8 => have i_u_8 := j_u_8.trans i_u_4; (xf_b1 (F := fun k => wp_X5_isSound k u_8) (xf_dt (dt_X5_isSound u_8)) (fun r_9 _ => (xf_p (xf_b1 (F := fun k => wp_X5_isSound k u_8) (xf_dt (dt_X5_isSound u_8)) (fun r_12 _ => (xf_p (xf_r i_u_8) (xf_b1 (F := fun k => wp_X0_wearFlap k s0 r_3 r_7) (xf_dt (dt_X0_wearFlap s0 r_3 r_7)) (fun u_16 _ => (xf_r i_u_8)))))) (xf_b1 (F := fun k => wp_X0_isWorn k s0 r_3 r_7) (xf_dt (dt_X0_isWorn s0 r_3 r_7)) (fun r_17 _ => (xf_p (xf_b1 (F := fun k => wp_X5_isSound k u_8) (xf_dt (dt_X5_isSound u_8)) (fun r_20 _ => (xf_p (xf_r i_u_8) (xf_b1 (F := fun k => wp_X0_wearFlap k s0 r_3 r_7) (xf_dt (dt_X0_wearFlap s0 r_3 r_7)) (fun u_24 _ => (xf_r i_u_8)))))) (xf_b1 (F := fun k => wp_X5_blame k u_8 (u_8.1 2) (2 : Int32)) (ft_X5_blame u_8 (u_8.1 2) (2 : Int32)) (fun u_26 j_u_26 => have i_u_26 := j_u_26.trans i_u_8; (xf_b1 (F := fun k => wp_X5_isSound k u_26) (xf_dt (dt_X5_isSound u_26)) (fun r_27 _ => (xf_p (xf_r i_u_26) (xf_b1 (F := fun k => wp_X0_wearFlap k s0 r_3 r_7) (xf_dt (dt_X0_wearFlap s0 r_3 r_7)) (fun u_31 _ => (xf_r i_u_26))))))))))))))))))))))
set_option maxHeartbeats 4000000 in
theorem ft_X1_readRow (s0 : Bd) (s1 : Tp) : xf (fun P : (Bd × Tp) → Prop => wp_X1_readRow (fun a0 a1 => P (a0, a1)) s0 s1) (fun o => o.2.2 = s1.2) := by
  unfold wp_X1_readRow
  exact (xf_b2 (F := fun k => wp_X5_takeNumber k s1 (0 : Int32) ((s0.1 0) - 1)) (ft_X5_takeNumber s1 (0 : Int32) ((s0.1 0) - 1)) (fun r_1 u_2 j_u_2 => have i_u_2 := j_u_2.trans rfl; (xf_b1 (F := fun k => wp_X5_takeQuoted k u_2 (0 : Int32) (s0.1 1)) (ft_X5_takeQuoted u_2 (0 : Int32) (s0.1 1)) (fun u_4 j_u_4 => have i_u_4 := j_u_4.trans i_u_2; (xf_b1 (F := fun k => wp_X5_isSound k u_4) (xf_dt (dt_X5_isSound u_4)) (fun r_5 _ => (xf_p (xf_r i_u_4) (xf_b1 (F := fun k => wp_X0_showSigns k s0 u_4 r_1 (u_4.1 3) (u_4.1 4)) (xf_dt (dt_X0_showSigns s0 u_4 r_1 (u_4.1 3) (u_4.1 4))) (fun u_9 _ => (xf_r i_u_4))))))))))
set_option maxHeartbeats 4000000 in
theorem ft_X1_readLose (s0 : Bd) (s1 : Tp) : xf (fun P : (Bd × Tp) → Prop => wp_X1_readLose (fun a0 a1 => P (a0, a1)) s0 s1) (fun o => o.2.2 = s1.2) := by
  unfold wp_X1_readLose
  exact (xf_b1 (F := fun k => wp_X0_cells k s0) (xf_dt (dt_X0_cells s0)) (fun r_1 _ => (xf_b2 (F := fun k => wp_X5_takeNumber k s1 (0 : Int32) (r_1 - 1)) (ft_X5_takeNumber s1 (0 : Int32) (r_1 - 1)) (fun r_3 u_4 j_u_4 => have i_u_4 := j_u_4.trans rfl; (xf_b2 (F := fun k => wp_X5_takeNumber k u_4 (0 : Int32) (9 : Int32)) (ft_X5_takeNumber u_4 (0 : Int32) (9 : Int32)) (fun r_5 u_6 j_u_6 => have i_u_6 := j_u_6.trans i_u_4; (xf_b1 (F := fun k => wp_X5_isSound k u_6) (xf_dt (dt_X5_isSound u_6)) (fun r_7 _ => (xf_p (xf_r i_u_6) (xf_b1 (F := fun k => wp_X0_setLost k s0 r_3 r_5) (xf_dt (dt_X0_setLost s0 r_3 r_5)) (fun u_11 _ => (xf_r i_u_6))))))))))))
set_option maxHeartbeats 4000000 in
theorem ft_X1_readPart (s0 : Bd) (s1 : Tp) : xf (fun P : (Bd × Tp) → Prop => wp_X1_readPart (fun a0 a1 => P (a0, a1)) s0 s1) (fun o => o.2.2 = s1.2) := by
  unfold wp_X1_readPart
  exact (xf_b2 (F := fun k => wp_X5_takeWord k s1) (ft_X5_takeWord s1) (fun r_1 u_2 j_u_2 => have i_u_2 := j_u_2.trans rfl; (xf_p (xf_b1 (F := fun k => wp_X5_blame k u_2 (u_2.1 2) (1 : Int32)) (ft_X5_blame u_2 (u_2.1 2) (1 : Int32)) (fun u_5 j_u_5 => have i_u_5 := j_u_5.trans i_u_2; (xf_b1 (F := fun k => wp_X5_isSound k u_5) (xf_dt (dt_X5_isSound u_5)) (fun r_6 _ => (xf_n (xf_p (xf_b2 (F := fun k => wp_X1_readDrum k s0 u_5) (ft_X1_readDrum s0 u_5) (fun u_11a u_11b j_u_11b => have i_u_11b := j_u_11b.trans i_u_5; (xf_r i_u_11b))) (xf_p (xf_b2 (F := fun k => wp_X1_readCells k s0 u_5) (ft_X1_readCells s0 u_5) (fun u_14a u_14b j_u_14b => have i_u_14b := j_u_14b.trans i_u_5; (xf_r i_u_14b))) (xf_p (xf_b2 (F := fun k => wp_X1_readWorn k s0 u_5) (ft_X1_readWorn s0 u_5) (fun u_17a u_17b j_u_17b => have i_u_17b := j_u_17b.trans i_u_5; (xf_r i_u_17b))) (xf_p (xf_b2 (F := fun k => wp_X1_readRow k s0 u_5) (ft_X1_readRow s0 u_5) (fun u_20a u_20b j_u_20b => have i_u_20b := j_u_20b.trans i_u_5; (xf_r i_u_20b))) (xf_b2 (F := fun k => wp_X1_readLose k s0 u_5) (ft_X1_readLose s0 u_5) (fun u_22a u_22b j_u_22b => have i_u_22b := j_u_22b.trans i_u_5; (xf_r i_u_22b))))))) (xf_r i_u_5)))))) (xf_p (xf_n (xf_n (xf_b1 (F := fun k => wp_X5_isSound k u_2) (xf_dt (dt_X5_isSound u_2)) (fun r_26 _ => (xf_n (xf_p (xf_b2 (F := fun k => wp_X1_readDrum k s0 u_2) (ft_X1_readDrum s0 u_2) (fun u_31a u_31b j_u_31b => have i_u_31b := j_u_31b.trans i_u_2; (xf_r i_u_31b))) (xf_p (xf_b2 (F := fun k => wp_X1_readCells k s0 u_2) (ft_X1_readCells s0 u_2) (fun u_34a u_34b j_u_34b => have i_u_34b := j_u_34b.trans i_u_2; (xf_r i_u_34b))) (xf_p (xf_b2 (F := fun k => wp_X1_readWorn k s0 u_2) (ft_X1_readWorn s0 u_2) (fun u_37a u_37b j_u_37b => have i_u_37b := j_u_37b.trans i_u_2; (xf_r i_u_37b))) (xf_p (xf_b2 (F := fun k => wp_X1_readRow k s0 u_2) (ft_X1_readRow s0 u_2) (fun u_40a u_40b j_u_40b => have i_u_40b := j_u_40b.trans i_u_2; (xf_r i_u_40b))) (xf_b2 (F := fun k => wp_X1_readLose k s0 u_2) (ft_X1_readLose s0 u_2) (fun u_42a u_42b j_u_42b => have i_u_42b := j_u_42b.trans i_u_2; (xf_r i_u_42b))))))) (xf_r i_u_2)))) (xf_b1 (F := fun k => wp_X5_blame k u_2 (u_2.1 2) (3 : Int32)) (ft_X5_blame u_2 (u_2.1 2) (3 : Int32)) (fun u_44 j_u_44 => have i_u_44 := j_u_44.trans i_u_2; (xf_b1 (F := fun k => wp_X5_isSound k u_44) (xf_dt (dt_X5_isSound u_44)) (fun r_45 _ => (xf_n (xf_p (xf_b2 (F := fun k => wp_X1_readDrum k s0 u_44) (ft_X1_readDrum s0 u_44) (fun u_50a u_50b j_u_50b => have i_u_50b := j_u_50b.trans i_u_44; (xf_r i_u_50b))) (xf_p (xf_b2 (F := fun k => wp_X1_readCells k s0 u_44) (ft_X1_readCells s0 u_44) (fun u_53a u_53b j_u_53b => have i_u_53b := j_u_53b.trans i_u_44; (xf_r i_u_53b))) (xf_p (xf_b2 (F := fun k => wp_X1_readWorn k s0 u_44) (ft_X1_readWorn s0 u_44) (fun u_56a u_56b j_u_56b => have i_u_56b := j_u_56b.trans i_u_44; (xf_r i_u_56b))) (xf_p (xf_b2 (F := fun k => wp_X1_readRow k s0 u_44) (ft_X1_readRow s0 u_44) (fun u_59a u_59b j_u_59b => have i_u_59b := j_u_59b.trans i_u_44; (xf_r i_u_59b))) (xf_b2 (F := fun k => wp_X1_readLose k s0 u_44) (ft_X1_readLose s0 u_44) (fun u_61a u_61b j_u_61b => have i_u_61b := j_u_61b.trans i_u_44; (xf_r i_u_61b))))))) (xf_r i_u_44))))))) (xf_n (xf_b1 (F := fun k => wp_X5_isSound k u_2) (xf_dt (dt_X5_isSound u_2)) (fun r_63 _ => (xf_n (xf_p (xf_b2 (F := fun k => wp_X1_readDrum k s0 u_2) (ft_X1_readDrum s0 u_2) (fun u_68a u_68b j_u_68b => have i_u_68b := j_u_68b.trans i_u_2; (xf_r i_u_68b))) (xf_p (xf_b2 (F := fun k => wp_X1_readCells k s0 u_2) (ft_X1_readCells s0 u_2) (fun u_71a u_71b j_u_71b => have i_u_71b := j_u_71b.trans i_u_2; (xf_r i_u_71b))) (xf_p (xf_b2 (F := fun k => wp_X1_readWorn k s0 u_2) (ft_X1_readWorn s0 u_2) (fun u_74a u_74b j_u_74b => have i_u_74b := j_u_74b.trans i_u_2; (xf_r i_u_74b))) (xf_p (xf_b2 (F := fun k => wp_X1_readRow k s0 u_2) (ft_X1_readRow s0 u_2) (fun u_77a u_77b j_u_77b => have i_u_77b := j_u_77b.trans i_u_2; (xf_r i_u_77b))) (xf_b2 (F := fun k => wp_X1_readLose k s0 u_2) (ft_X1_readLose s0 u_2) (fun u_79a u_79b j_u_79b => have i_u_79b := j_u_79b.trans i_u_2; (xf_r i_u_79b))))))) (xf_r i_u_2)))) (xf_b1 (F := fun k => wp_X5_blame k u_2 (u_2.1 2) (3 : Int32)) (ft_X5_blame u_2 (u_2.1 2) (3 : Int32)) (fun u_81 j_u_81 => have i_u_81 := j_u_81.trans i_u_2; (xf_b1 (F := fun k => wp_X5_isSound k u_81) (xf_dt (dt_X5_isSound u_81)) (fun r_82 _ => (xf_n (xf_p (xf_b2 (F := fun k => wp_X1_readDrum k s0 u_81) (ft_X1_readDrum s0 u_81) (fun u_87a u_87b j_u_87b => have i_u_87b := j_u_87b.trans i_u_81; (xf_r i_u_87b))) (xf_p (xf_b2 (F := fun k => wp_X1_readCells k s0 u_81) (ft_X1_readCells s0 u_81) (fun u_90a u_90b j_u_90b => have i_u_90b := j_u_90b.trans i_u_81; (xf_r i_u_90b))) (xf_p (xf_b2 (F := fun k => wp_X1_readWorn k s0 u_81) (ft_X1_readWorn s0 u_81) (fun u_93a u_93b j_u_93b => have i_u_93b := j_u_93b.trans i_u_81; (xf_r i_u_93b))) (xf_p (xf_b2 (F := fun k => wp_X1_readRow k s0 u_81) (ft_X1_readRow s0 u_81) (fun u_96a u_96b j_u_96b => have i_u_96b := j_u_96b.trans i_u_81; (xf_r i_u_96b))) (xf_b2 (F := fun k => wp_X1_readLose k s0 u_81) (ft_X1_readLose s0 u_81) (fun u_98a u_98b j_u_98b => have i_u_98b := j_u_98b.trans i_u_81; (xf_r i_u_98b))))))) (xf_r i_u_81)))))))) (xf_b1 (F := fun k => wp_X5_blame k u_2 (u_2.1 2) (1 : Int32)) (ft_X5_blame u_2 (u_2.1 2) (1 : Int32)) (fun u_100 j_u_100 => have i_u_100 := j_u_100.trans i_u_2; (xf_b1 (F := fun k => wp_X5_isSound k u_100) (xf_dt (dt_X5_isSound u_100)) (fun r_101 _ => (xf_n (xf_p (xf_b2 (F := fun k => wp_X1_readDrum k s0 u_100) (ft_X1_readDrum s0 u_100) (fun u_106a u_106b j_u_106b => have i_u_106b := j_u_106b.trans i_u_100; (xf_r i_u_106b))) (xf_p (xf_b2 (F := fun k => wp_X1_readCells k s0 u_100) (ft_X1_readCells s0 u_100) (fun u_109a u_109b j_u_109b => have i_u_109b := j_u_109b.trans i_u_100; (xf_r i_u_109b))) (xf_p (xf_b2 (F := fun k => wp_X1_readWorn k s0 u_100) (ft_X1_readWorn s0 u_100) (fun u_112a u_112b j_u_112b => have i_u_112b := j_u_112b.trans i_u_100; (xf_r i_u_112b))) (xf_p (xf_b2 (F := fun k => wp_X1_readRow k s0 u_100) (ft_X1_readRow s0 u_100) (fun u_115a u_115b j_u_115b => have i_u_115b := j_u_115b.trans i_u_100; (xf_r i_u_115b))) (xf_b2 (F := fun k => wp_X1_readLose k s0 u_100) (ft_X1_readLose s0 u_100) (fun u_117a u_117b j_u_117b => have i_u_117b := j_u_117b.trans i_u_100; (xf_r i_u_117b))))))) (xf_r i_u_100))))))))))
set_option maxHeartbeats 4000000 in
theorem fm_X1_readInto_L15  {O : Type} {I : O → Prop} {c0 : Nat → Int32}  {G_post : Bd → Tp → (O → Prop) → Prop} {G_e54 : Bd → Tp → Int32 → (O → Prop) → Prop} (h_post : ∀ (v0 : Bd) (v1 : Tp), v1.2 = c0 → xf (G_post v0 v1) I) (h_e54 : ∀ (v0 : Bd) (v1 : Tp) (v2 : Int32), v1.2 = c0 → xf (G_e54 v0 v1 v2) I) : ∀ (n : Nat) (t0 : Bd) (t1 : Tp) (z2 : Int32), t1.2 = c0 → xf (fun P : O → Prop => wp_X1_readInto_L15 (fun v0 v1 => G_post v0 v1 P) (fun v0 v1 v2 => G_e54 v0 v1 v2 P) n t0 t1 z2) I := by
  intro n
  induction n with
  | zero => exact fun _ _ _ _ => xf_F
  | succ n15 ih =>
    intro t0 t1 z2 i_t1
    unfold wp_X1_readInto_L15
    exact (xf_p (h_e54 t0 t1 z2 i_t1) (xf_b1 (F := fun k => wp_X5_isSound k t1) (xf_dt (dt_X5_isSound t1)) (fun r_8 _ => (xf_p (h_e54 t0 t1 z2 i_t1) (xf_b2 (F := fun k => wp_X5_peek k t1) (ft_X5_peek t1) (fun r_11 u_12 j_u_12 => have i_u_12 := j_u_12.trans i_t1; (xf_p (h_e54 t0 u_12 z2 i_u_12) (xf_b1 (F := fun k => wp_X5_takeByte k u_12 (59 : Int32)) (ft_X5_takeByte u_12 (59 : Int32)) (fun u_15 j_u_15 => have i_u_15 := j_u_15.trans i_u_12; (xf_b2 (F := fun k => wp_X1_readPart k t0 u_15) (ft_X1_readPart t0 u_15) (fun u_17a u_17b j_u_17b => have i_u_17b := j_u_17b.trans i_u_15; (ih u_17a u_17b (z2 + 1) i_u_17b))))))))))))
set_option maxHeartbeats 4000000 in
theorem ft_X1_readInto (s0 : Bd) (s1 : Tp) : xf (fun P : (Bd × Tp) → Prop => wp_X1_readInto (fun a0 a1 => P (a0, a1)) s0 s1) (fun o => o.2.2 = s1.2) := by
  unfold wp_X1_readInto
  exact (xf_b1 (F := fun k => wp_X0_clear k s0) (xf_dt (dt_X0_clear s0)) (fun u_2 _ => (xf_b1 (F := fun k => wp_X5_startReading k s1) (ft_X5_startReading s1) (fun u_4 j_u_4 => have i_u_4 := j_u_4.trans rfl; (xf_b2 (F := fun k => wp_X1_readHead k u_2 u_4) (ft_X1_readHead u_2 u_4) (fun u_6a u_6b j_u_6b => have i_u_6b := j_u_6b.trans i_u_4; (xf_x (fun n15 => (fm_X1_readInto_L15  (fun v0 v1 i_v1 => (xf_r i_v1)) (fun t0 t1 z2 i_t1 => (xf_n (xf_r i_t1) (xf_b1 (F := fun k => wp_X5_blame k t1 (t1.1 0) (4 : Int32)) (ft_X5_blame t1 (t1.1 0) (4 : Int32)) (fun u_20 j_u_20 => have i_u_20 := j_u_20.trans i_t1; (xf_r i_u_20))))) n15 u_6a u_6b 0 i_u_6b)))))))))
set_option maxHeartbeats 4000000 in
theorem ft_X4_openTimes (s0 : Pg) (s1 : Tp) : xf (fun P : (Pg × Tp) → Prop => wp_X4_openTimes (fun a0 a1 => P (a0, a1)) s0 s1) (fun o => o.2.2 = s1.2) := by
  unfold wp_X4_openTimes
  exact (xf_b2 (F := fun k => wp_X5_peek k s1) (ft_X5_peek s1) (fun r_1 u_2 j_u_2 => have i_u_2 := j_u_2.trans rfl; (xf_n (xf_b1 (F := fun k => wp_X5_takeByte k u_2 (40 : Int32)) (ft_X5_takeByte u_2 (40 : Int32)) (fun u_5 j_u_5 => have i_u_5 := j_u_5.trans i_u_2; (xf_b1 (F := fun k => wp_X5_isSound k u_5) (xf_dt (dt_X5_isSound u_5)) (fun r_6 _ => (xf_p (xf_r i_u_5) (xf_c (xf_r i_u_5))))))) (xf_p (xf_b1 (F := fun k => wp_X5_takeByte k u_2 (40 : Int32)) (ft_X5_takeByte u_2 (40 : Int32)) (fun u_12 j_u_12 => have i_u_12 := j_u_12.trans i_u_2; (xf_b1 (F := fun k => wp_X5_isSound k u_12) (xf_dt (dt_X5_isSound u_12)) (fun r_13 _ => (xf_p (xf_r i_u_12) (xf_c (xf_r i_u_12))))))) (xf_b1 (F := fun k => wp_X5_blame k u_2 (u_2.1 1) (3 : Int32)) (ft_X5_blame u_2 (u_2.1 1) (3 : Int32)) (fun u_18 j_u_18 => have i_u_18 := j_u_18.trans i_u_2; (xf_b1 (F := fun k => wp_X5_takeByte k u_18 (40 : Int32)) (ft_X5_takeByte u_18 (40 : Int32)) (fun u_20 j_u_20 => have i_u_20 := j_u_20.trans i_u_18; (xf_b1 (F := fun k => wp_X5_isSound k u_20) (xf_dt (dt_X5_isSound u_20)) (fun r_21 _ => (xf_p (xf_r i_u_20) (xf_c (xf_r i_u_20)))))))))))))
set_option maxHeartbeats 4000000 in
theorem ft_X4_readStep (s0 : Pg) (s1 : Tp) (s2 : Bd) (x1 : Int32) : xf (fun P : (Pg × Tp) → Prop => wp_X4_readStep (fun a0 a1 => P (a0, a1)) s0 s1 s2 x1) (fun o => o.2.2 = s1.2) := by
  unfold wp_X4_readStep
  exact (xf_p (xf_b2 (F := fun k => wp_X5_takeNumber k ((va_up s1.1 4 0), s1.2) (0 : Int32) ((s2.1 0) - 1)) (ft_X5_takeNumber ((va_up s1.1 4 0), s1.2) (0 : Int32) ((s2.1 0) - 1)) (fun r_2 u_3 j_u_3 => have i_u_3 := j_u_3.trans rfl; (xf_b1 (F := fun k => wp_X5_takeQuoted k u_3 (0 : Int32) (s2.1 1)) (ft_X5_takeQuoted u_3 (0 : Int32) (s2.1 1)) (fun u_5 j_u_5 => have i_u_5 := j_u_5.trans i_u_3; (xf_b1 (F := fun k => wp_X5_isSound k u_5) (xf_dt (dt_X5_isSound u_5)) (fun r_6 _ => (xf_p (xf_r i_u_5) (xf_b1 (F := fun k => wp_X4_addStep k s0 x1 r_2 (u_5.1 3) (u_5.1 4)) (xf_dt (dt_X4_addStep s0 x1 r_2 (u_5.1 3) (u_5.1 4))) (fun u_10 _ => (xf_r i_u_5)))))))))) (xf_p (xf_b1 (F := fun k => wp_X0_cells k s2) (xf_dt (dt_X0_cells s2)) (fun r_12 _ => (xf_b2 (F := fun k => wp_X5_takeNumber k ((va_up s1.1 4 0), s1.2) (0 : Int32) (r_12 - 1)) (ft_X5_takeNumber ((va_up s1.1 4 0), s1.2) (0 : Int32) (r_12 - 1)) (fun r_14 u_15 j_u_15 => have i_u_15 := j_u_15.trans rfl; (xf_b2 (F := fun k => wp_X5_takeNumber k u_15 (0 : Int32) (9 : Int32)) (ft_X5_takeNumber u_15 (0 : Int32) (9 : Int32)) (fun r_16 u_17 j_u_17 => have i_u_17 := j_u_17.trans i_u_15; (xf_b1 (F := fun k => wp_X5_isSound k u_17) (xf_dt (dt_X5_isSound u_17)) (fun r_18 _ => (xf_p (xf_r i_u_17) (xf_b1 (F := fun k => wp_X4_addStep k s0 x1 r_14 r_16 (u_17.1 4)) (xf_dt (dt_X4_addStep s0 x1 r_14 r_16 (u_17.1 4))) (fun u_22 _ => (xf_r i_u_17)))))))))))) (xf_p (xf_b1 (F := fun k => wp_X5_takeQuoted k ((va_up s1.1 4 0), s1.2) (0 : Int32) (s2.1 1)) (ft_X5_takeQuoted ((va_up s1.1 4 0), s1.2) (0 : Int32) (s2.1 1)) (fun u_25 j_u_25 => have i_u_25 := j_u_25.trans rfl; (xf_b1 (F := fun k => wp_X5_isSound k u_25) (xf_dt (dt_X5_isSound u_25)) (fun r_26 _ => (xf_p (xf_r i_u_25) (xf_b1 (F := fun k => wp_X4_addStep k s0 x1 (0 : Int32) (u_25.1 3) (u_25.1 4)) (xf_dt (dt_X4_addStep s0 x1 (0 : Int32) (u_25.1 3) (u_25.1 4))) (fun u_30 _ => (xf_r i_u_25)))))))) (xf_p (xf_b2 (F := fun k => wp_X5_takeNumber k ((va_up s1.1 4 0), s1.2) (0 : Int32) ((s2.1 0) - 1)) (ft_X5_takeNumber ((va_up s1.1 4 0), s1.2) (0 : Int32) ((s2.1 0) - 1)) (fun r_32 u_33 j_u_33 => have i_u_33 := j_u_33.trans rfl; (xf_b1 (F := fun k => wp_X5_isSound k u_33) (xf_dt (dt_X5_isSound u_33)) (fun r_34 _ => (xf_p (xf_r i_u_33) (xf_b1 (F := fun k => wp_X4_addStep k s0 x1 r_32 (0 : Int32) (u_33.1 4)) (xf_dt (dt_X4_addStep s0 x1 r_32 (0 : Int32) (u_33.1 4))) (fun u_38 _ => (xf_r i_u_33)))))))) (xf_p (xf_b2 (F := fun k => wp_X5_takeNumber k ((va_up s1.1 4 0), s1.2) (1 : Int32) (99 : Int32)) (ft_X5_takeNumber ((va_up s1.1 4 0), s1.2) (1 : Int32) (99 : Int32)) (fun r_40 u_41 j_u_41 => have i_u_41 := j_u_41.trans rfl; (xf_b1 (F := fun k => wp_X5_isSound k u_41) (xf_dt (dt_X5_isSound u_41)) (fun r_42 _ => (xf_p (xf_r i_u_41) (xf_b1 (F := fun k => wp_X4_addStep k s0 x1 r_40 (0 : Int32) (u_41.1 4)) (xf_dt (dt_X4_addStep s0 x1 r_40 (0 : Int32) (u_41.1 4))) (fun u_46 _ => (xf_r i_u_41)))))))) (xf_p (xf_b1 (F := fun k => wp_X5_isSound k ((va_up s1.1 4 0), s1.2)) (xf_dt (dt_X5_isSound ((va_up s1.1 4 0), s1.2))) (fun r_48 _ => (xf_p (xf_r rfl) (xf_b1 (F := fun k => wp_X4_addStep k s0 x1 (0 : Int32) (0 : Int32) (0 : Int32)) (xf_dt (dt_X4_addStep s0 x1 (0 : Int32) (0 : Int32) (0 : Int32))) (fun u_52 _ => (xf_r rfl)))))) (xf_p (xf_b2 (F := fun k => wp_X5_takeNumber k ((va_up s1.1 4 0), s1.2) (0 : Int32) (20 : Int32)) (ft_X5_takeNumber ((va_up s1.1 4 0), s1.2) (0 : Int32) (20 : Int32)) (fun r_54 u_55 j_u_55 => have i_u_55 := j_u_55.trans rfl; (xf_b2 (F := fun k => wp_X4_openTimes k s0 u_55) (ft_X4_openTimes s0 u_55) (fun u_57a u_57b j_u_57b => have i_u_57b := j_u_57b.trans i_u_55; (xf_b1 (F := fun k => wp_X5_isSound k u_57b) (xf_dt (dt_X5_isSound u_57b)) (fun r_58 _ => (xf_p (xf_r i_u_57b) (xf_b1 (F := fun k => wp_X4_addStep k u_57a x1 r_54 (0 : Int32) (u_57b.1 4)) (xf_dt (dt_X4_addStep u_57a x1 r_54 (0 : Int32) (u_57b.1 4))) (fun u_62 _ => (xf_r i_u_57b)))))))))) (xf_b1 (F := fun k => wp_X5_blame k ((va_up s1.1 4 0), s1.2) (s1.1 2) (1 : Int32)) (ft_X5_blame ((va_up s1.1 4 0), s1.2) (s1.1 2) (1 : Int32)) (fun u_64 j_u_64 => have i_u_64 := j_u_64.trans rfl; (xf_b1 (F := fun k => wp_X5_isSound k u_64) (xf_dt (dt_X5_isSound u_64)) (fun r_65 _ => (xf_p (xf_r i_u_64) (xf_b1 (F := fun k => wp_X4_addStep k s0 x1 (0 : Int32) (0 : Int32) (u_64.1 4)) (xf_dt (dt_X4_addStep s0 x1 (0 : Int32) (0 : Int32) (u_64.1 4))) (fun u_69 _ => (xf_r i_u_64)))))))))))))))
set_option maxHeartbeats 4000000 in
theorem fm_X4_goesOn_L2  {O : Type} {I : O → Prop} {c0 : Nat → Int32}  {G_post : Int32 → Pg → Tp → (O → Prop) → Prop} {G_e105 : Pg → Tp → Int32 → (O → Prop) → Prop} (h_post : ∀ (v0 : Int32) (v1 : Pg) (v2 : Tp), v2.2 = c0 → xf (G_post v0 v1 v2) I) (h_e105 : ∀ (v0 : Pg) (v1 : Tp) (v2 : Int32), v1.2 = c0 → xf (G_e105 v0 v1 v2) I) : ∀ (n : Nat) (t0 : Pg) (t1 : Tp) (z2 : Int32), t1.2 = c0 → xf (fun P : O → Prop => wp_X4_goesOn_L2 (fun v0 v1 v2 => G_post v0 v1 v2 P) (fun v0 v1 v2 => G_e105 v0 v1 v2 P) n t0 t1 z2) I := by
  intro n
  induction n with
  | zero => exact fun _ _ _ _ => xf_F
  | succ n2 ih =>
    intro t0 t1 z2 i_t1
    unfold wp_X4_goesOn_L2
    exact (xf_p (h_e105 t0 t1 z2 i_t1) (xf_b2 (F := fun k => wp_X5_peek k t1) (ft_X5_peek t1) (fun r_2 u_3 j_u_3 => have i_u_3 := j_u_3.trans i_t1; (xf_n (xf_n (xf_n (xf_b1 (F := fun k => wp_X5_blame k u_3 (u_3.1 1) (1 : Int32)) (ft_X5_blame u_3 (u_3.1 1) (1 : Int32)) (fun u_8 j_u_8 => have i_u_8 := j_u_8.trans i_u_3; (h_post 0 t0 u_8 i_u_8))) (xf_p (h_post 0 t0 u_3 i_u_3) (xf_b1 (F := fun k => wp_X5_blame k u_3 (u_3.1 1) (1 : Int32)) (ft_X5_blame u_3 (u_3.1 1) (1 : Int32)) (fun u_11 j_u_11 => have i_u_11 := j_u_11.trans i_u_3; (h_post 0 t0 u_11 i_u_11))))) (xf_p (xf_c (xf_b1 (F := fun k => wp_X4_closeTimes k ((va_up t0.1 0 ((t0.1 0) - 1)), t0.2) ((t0.2 5) (Int32.toNatClampNeg ((t0.1 0) - 1)))) (xf_dt (dt_X4_closeTimes ((va_up t0.1 0 ((t0.1 0) - 1)), t0.2) ((t0.2 5) (Int32.toNatClampNeg ((t0.1 0) - 1))))) (fun u_15 _ => (ih u_15 ((va_up u_3.1 1 ((u_3.1 1) + 1)), u_3.2) (z2 + 1) i_u_3)))) (xf_n (xf_b1 (F := fun k => wp_X5_blame k u_3 (u_3.1 1) (1 : Int32)) (ft_X5_blame u_3 (u_3.1 1) (1 : Int32)) (fun u_18 j_u_18 => have i_u_18 := j_u_18.trans i_u_3; (h_post 0 t0 u_18 i_u_18))) (xf_p (h_post 0 t0 u_3 i_u_3) (xf_b1 (F := fun k => wp_X5_blame k u_3 (u_3.1 1) (1 : Int32)) (ft_X5_blame u_3 (u_3.1 1) (1 : Int32)) (fun u_21 j_u_21 => have i_u_21 := j_u_21.trans i_u_3; (h_post 0 t0 u_21 i_u_21))))))) (h_post 1 t0 ((va_up u_3.1 1 ((u_3.1 1) + 1)), u_3.2) i_u_3)))))
set_option maxHeartbeats 4000000 in
theorem ft_X4_goesOn (s0 : Pg) (s1 : Tp) : xf (fun P : (Int32 × Pg × Tp) → Prop => wp_X4_goesOn (fun a0 a1 a2 => P (a0, a1, a2)) s0 s1) (fun o => o.2.2.2 = s1.2) := by
  unfold wp_X4_goesOn
  exact (xf_x (fun n2 => (fm_X4_goesOn_L2  (fun v0 v1 v2 i_v2 => (xf_r i_v2)) (fun t0 t1 z2 i_t1 => (xf_r i_t1)) n2 s0 s1 0 rfl)))
set_option maxHeartbeats 4000000 in
theorem fm_X4_readFrom_L19 (s2 : Bd) {O : Type} {I : O → Prop} {c0 : Nat → Int32}  {G_post : Pg → Tp → (O → Prop) → Prop} {G_e78 : Pg → Tp → Int32 → Int32 → (O → Prop) → Prop} (h_post : ∀ (v0 : Pg) (v1 : Tp), v1.2 = c0 → xf (G_post v0 v1) I) (h_e78 : ∀ (v0 : Pg) (v1 : Tp) (v2 : Int32) (v3 : Int32), v1.2 = c0 → xf (G_e78 v0 v1 v2 v3) I) : ∀ (n : Nat) (t0 : Pg) (t1 : Tp) (z3 : Int32) (z4 : Int32), t1.2 = c0 → xf (fun P : O → Prop => wp_X4_readFrom_L19 s2 (fun v0 v1 => G_post v0 v1 P) (fun v0 v1 v2 v3 => G_e78 v0 v1 v2 v3 P) n t0 t1 z3 z4) I := by
  intro n
  induction n with
  | zero => exact fun _ _ _ _ _ => xf_F
  | succ n19 ih =>
    intro t0 t1 z3 z4 i_t1
    unfold wp_X4_readFrom_L19
    exact (xf_p (h_e78 t0 t1 z3 z4 i_t1) (xf_p (h_e78 t0 t1 z3 z4 i_t1) (xf_b2 (F := fun k => wp_X5_takeWord k t1) (ft_X5_takeWord t1) (fun r_5 u_6 j_u_6 => have i_u_6 := j_u_6.trans i_t1; (xf_b2 (F := fun k => wp_X4_readStep k t0 u_6 s2 r_5) (ft_X4_readStep t0 u_6 s2 r_5) (fun u_8a u_8b j_u_8b => have i_u_8b := j_u_8b.trans i_u_6; (xf_b1 (F := fun k => wp_X5_isSound k u_8b) (xf_dt (dt_X5_isSound u_8b)) (fun r_9 _ => (xf_p (ih u_8a u_8b 0 (z4 + 1) i_u_8b) (xf_p (ih u_8a u_8b 1 (z4 + 1) i_u_8b) (xf_b3 (F := fun k => wp_X4_goesOn k u_8a u_8b) (ft_X4_goesOn u_8a u_8b) (fun r_13 u_14a u_14b j_u_14b => have i_u_14b := j_u_14b.trans i_u_8b; (xf_p (ih u_14a u_14b 0 (z4 + 1) i_u_14b) (ih u_14a u_14b 1 (z4 + 1) i_u_14b))))))))))))))
set_option maxHeartbeats 4000000 in
theorem ft_X4_readFrom (s0 : Pg) (s1 : Tp) (s2 : Bd) : xf (fun P : (Pg × Tp) → Prop => wp_X4_readFrom (fun a0 a1 => P (a0, a1)) s0 s1 s2) (fun o => o.2.2 = s1.2) := by
  unfold wp_X4_readFrom
  exact (xf_b1 (F := fun k => wp_X5_startReading k s1) (ft_X5_startReading s1) (fun u_2 j_u_2 => have i_u_2 := j_u_2.trans rfl; (xf_x (fun n19 => (fm_X4_readFrom_L19 s2 (fun v0 v1 i_v1 => (xf_r i_v1)) (fun t0 t1 z3 z4 i_t1 => (xf_r i_t1)) n19 ((va_up (va_up s0.1 0 0) 1 0), s0.2) u_2 1 0 i_u_2)))))
set_option maxHeartbeats 4000000 in
theorem ft_X6_end (s1 : Tp) (x1 : Int32) : xf (fun P : (Int32 × Tp) → Prop => wp_X6_end (fun a0 a1 => P (a0, a1)) s1 x1) (fun o => o.2.2 = s1.2) := by
  unfold wp_X6_end
  exact (xf_p (xf_r rfl) (xf_p (xf_r rfl) (xf_r rfl)))
set_option maxHeartbeats 4000000 in
theorem ft_X6_whyNotProgram (s1 : Tp) (s2 : Bd) (s5 : Pg) : xf (fun P : (Int32 × Tp × Pg) → Prop => wp_X6_whyNotProgram (fun a0 a1 a2 => P (a0, a1, a2)) s1 s2 s5) (fun o => o.2.1.2 = s1.2) := by
  unfold wp_X6_whyNotProgram
  exact (xf_b1 (F := fun k => wp_X0_isThere k s2) (xf_dt (dt_X0_isThere s2)) (fun r_1 _ => (xf_n (xf_b2 (F := fun k => wp_X4_readFrom k s5 s1 s2) (ft_X4_readFrom s5 s1 s2) (fun u_5a u_5b j_u_5b => have i_u_5b := j_u_5b.trans rfl; (xf_b1 (F := fun k => wp_X5_isSound k u_5b) (xf_dt (dt_X5_isSound u_5b)) (fun r_6 _ => (xf_p (xf_r i_u_5b) (xf_r i_u_5b)))))) (xf_r rfl))))
set_option maxHeartbeats 4000000 in
theorem ft_X6_row (s1 : Tp) (s2 : Bd) (s6 : Pa) (x1 : Int32) : xf (fun P : (Int32 × Tp × Bd × Pa) → Prop => wp_X6_row (fun a0 a1 a2 a3 => P (a0, a1, a2, a3)) s1 s2 s6 x1) (fun o => o.2.1.2 = s1.2) := by
  unfold wp_X6_row
  exact (xf_b1 (F := fun k => wp_X6_whyNotRow k s1 s2 x1) (xf_dt (dt_X6_whyNotRow s1 s2 x1)) (fun r_1 _ => (xf_n (xf_r rfl) (xf_b1 (F := fun k => wp_X3_push k s6 s2) (xf_dt (dt_X3_push s6 s2)) (fun s_6 _ => (xf_b2 (F := fun k => wp_X0_wantSigns k s2 s1 x1 (0 : Int32) (s1.1 0)) (xf_dt (dt_X0_wantSigns s2 s1 x1 (0 : Int32) (s1.1 0))) (fun r_10 u_11 _ => (xf_r rfl))))))))
set_option maxHeartbeats 4000000 in
theorem ft_X6_scroll (s1 : Tp) (s2 : Bd) (s6 : Pa) : xf (fun P : (Int32 × Tp × Bd × Pa) → Prop => wp_X6_scroll (fun a0 a1 a2 a3 => P (a0, a1, a2, a3)) s1 s2 s6) (fun o => o.2.1.2 = s1.2) := by
  unfold wp_X6_scroll
  exact (xf_b1 (F := fun k => wp_X6_whyNotRow k s1 s2 ((s2.1 0) - 1)) (xf_dt (dt_X6_whyNotRow s1 s2 ((s2.1 0) - 1))) (fun r_1 _ => (xf_n (xf_r rfl) (xf_b1 (F := fun k => wp_X3_push k s6 s2) (xf_dt (dt_X3_push s6 s2)) (fun s_6 _ => (xf_b2 (F := fun k => wp_X0_scrollUp k s2 s1 (0 : Int32) (s1.1 0)) (xf_dt (dt_X0_scrollUp s2 s1 (0 : Int32) (s1.1 0))) (fun r_10 u_11 _ => (xf_r rfl))))))))
set_option maxHeartbeats 4000000 in
theorem ft_X6_run (s1 : Tp) (s2 : Bd) (s4 : Mo) (s5 : Pg) (s6 : Pa) : xf (fun P : (Int32 × Tp × Bd × Mo × Pg × Pa) → Prop => wp_X6_run (fun a0 a1 a2 a3 a4 a5 => P (a0, a1, a2, a3, a4, a5)) s1 s2 s4 s5 s6) (fun o => o.2.1.2 = s1.2) := by
  unfold wp_X6_run
  exact (xf_b3 (F := fun k => wp_X6_whyNotProgram k s1 s2 s5) (ft_X6_whyNotProgram s1 s2 s5) (fun r_1 u_2a u_2b j_u_2a => have i_u_2a := j_u_2a.trans rfl; (xf_n (xf_r i_u_2a) (xf_b1 (F := fun k => wp_X3_push k s6 s2) (xf_dt (dt_X3_push s6 s2)) (fun s_6 _ => (xf_b4 (F := fun k => wp_X6_doProgram k u_2a s2 s4 u_2b) (xf_dt (dt_X6_doProgram u_2a s2 s4 u_2b)) (fun r_10 u_11a u_11b u_11c _ => (xf_r i_u_2a))))))))
set_option maxHeartbeats 4000000 in
theorem ft_X6_tell (s1 : Tp) (s2 : Bd) (s3 : Bd) (s6 : Pa) : xf (fun P : (Int32 × Tp × Bd × Bd × Pa) → Prop => wp_X6_tell (fun a0 a1 a2 a3 a4 => P (a0, a1, a2, a3, a4)) s1 s2 s3 s6) (fun o => o.2.1.2 = s1.2) := by
  unfold wp_X6_tell
  exact (xf_b2 (F := fun k => wp_X1_readInto k s3 s1) (ft_X1_readInto s3 s1) (fun u_2a u_2b j_u_2b => have i_u_2b := j_u_2b.trans rfl; (xf_b1 (F := fun k => wp_X5_isSound k ((va_up u_2b.1 0 0), u_2b.2)) (xf_dt (dt_X5_isSound ((va_up u_2b.1 0 0), u_2b.2))) (fun r_3 _ => (xf_n (xf_b1 (F := fun k => wp_X0_copyAllButLog k s2 u_2a) (xf_dt (dt_X0_copyAllButLog s2 u_2a)) (fun u_7 _ => (xf_b1 (F := fun k => wp_X0_emptyLog k u_7) (xf_dt (dt_X0_emptyLog u_7)) (fun b_10 _ => (xf_r i_u_2b))))) (xf_r i_u_2b))))))

theorem fq_X5_blame (s0 : Tp) (x1 : Int32) (x2 : Int32) {c0 : Int32} (h0 : ¬ c0 = 0) (hs : s0.1 5 = c0) : xf (fun P : Tp → Prop => wp_X5_blame (fun a0 => P a0) s0 x1 x2) (fun o => o.1 5 = c0) := fun P h => by
  unfold wp_X5_blame at h
  exact ⟨s0, h.1 (fun g => h0 (hs.symm.trans g)), hs⟩
set_option maxHeartbeats 4000000 in
theorem fk_X5_peek_L0  {O : Type} {I : O → Prop} {c0 : Int32} (h0 : ¬ c0 = 0) {G_post : Int32 → Tp → (O → Prop) → Prop} {G_e38 : Tp → (O → Prop) → Prop} (h_post : ∀ (v0 : Int32) (v1 : Tp), v1.1 5 = c0 → xf (G_post v0 v1) I) (h_e38 : ∀ (v0 : Tp), v0.1 5 = c0 → xf (G_e38 v0) I) : ∀ (n : Nat) (t0 : Tp), t0.1 5 = c0 → xf (fun P : O → Prop => wp_X5_peek_L0 (fun v0 v1 => G_post v0 v1 P) (fun v0 => G_e38 v0 P) n t0) I := by
  intro n
  induction n with
  | zero => exact fun _ _ => xf_F
  | succ n0 ih =>
    intro t0 i_t0
    unfold wp_X5_peek_L0
    exact (xf_p (h_e38 t0 i_t0) (xf_c (xf_n (h_e38 t0 i_t0) (ih ((va_up t0.1 1 ((t0.1 1) + 1)), t0.2) i_t0))))
set_option maxHeartbeats 4000000 in
theorem fq_X5_peek (s0 : Tp) {c0 : Int32} (h0 : ¬ c0 = 0) (hs : s0.1 5 = c0) : xf (fun P : (Int32 × Tp) → Prop => wp_X5_peek (fun a0 a1 => P (a0, a1)) s0) (fun o => o.2.1 5 = c0) := by
  unfold wp_X5_peek
  exact (xf_x (fun n0 => (fk_X5_peek_L0  h0 (fun v0 v1 i_v1 => (xf_r i_v1)) (fun t0 i_t0 => (xf_p (xf_r i_t0) (xf_c (xf_r i_t0)))) n0 s0 hs)))
set_option maxHeartbeats 4000000 in
theorem fk_X5_takeWord_L13  {O : Type} {I : O → Prop} {c0 : Int32} (h0 : ¬ c0 = 0) {G_post : Int32 → Tp → (O → Prop) → Prop} {G_e63 : Tp → (O → Prop) → Prop} (h_post : ∀ (v0 : Int32) (v1 : Tp), v1.1 5 = c0 → xf (G_post v0 v1) I) (h_e63 : ∀ (v0 : Tp), v0.1 5 = c0 → xf (G_e63 v0) I) : ∀ (n : Nat) (t0 : Tp), t0.1 5 = c0 → xf (fun P : O → Prop => wp_X5_takeWord_L13 (fun v0 v1 => G_post v0 v1 P) (fun v0 => G_e63 v0 P) n t0) I := by
  intro n
  induction n with
  | zero => exact fun _ _ => xf_F
  | succ n13 ih =>
    intro t0 i_t0
    unfold wp_X5_takeWord_L13
    exact (xf_p (h_e63 t0 i_t0) (xf_b1 (F := fun k => wp_X5_byteAt k t0 (t0.1 1)) (xf_dt (dt_X5_byteAt t0 (t0.1 1))) (fun r_4 _ => (xf_p (h_e63 t0 i_t0) (xf_b1 (F := fun k => wp_X5_byteAt k t0 (t0.1 1)) (xf_dt (dt_X5_byteAt t0 (t0.1 1))) (fun r_7 _ => (xf_p (h_e63 t0 i_t0) (ih ((va_up t0.1 1 ((t0.1 1) + 1)), t0.2) i_t0))))))))
set_option maxHeartbeats 4000000 in
theorem fq_X5_takeWord (s0 : Tp) {c0 : Int32} (h0 : ¬ c0 = 0) (hs : s0.1 5 = c0) : xf (fun P : (Int32 × Tp) → Prop => wp_X5_takeWord (fun a0 a1 => P (a0, a1)) s0) (fun o => o.2.1 5 = c0) := by
  unfold wp_X5_takeWord
  exact (xf_b2 (F := fun k => wp_X5_peek k s0) (fq_X5_peek s0 h0 hs) (fun r_1 u_2 i_u_2 => (xf_x (fun n13 => (fk_X5_takeWord_L13  h0 (fun v0 v1 i_v1 => (xf_r i_v1)) (fun t0 i_t0 => (xf_b1 (F := fun k => wp_X5_wordRead k t0) (xf_dt (dt_X5_wordRead t0)) (fun r_10 _ => (xf_r i_t0)))) n13 ((va_up u_2.1 2 (u_2.1 1)), u_2.2) i_u_2)))))
set_option maxHeartbeats 4000000 in
theorem fq_X5_takeThisWord (s0 : Tp) (x1 : Int32) {c0 : Int32} (h0 : ¬ c0 = 0) (hs : s0.1 5 = c0) : xf (fun P : Tp → Prop => wp_X5_takeThisWord (fun a0 => P a0) s0 x1) (fun o => o.1 5 = c0) := by
  unfold wp_X5_takeThisWord
  exact (xf_b2 (F := fun k => wp_X5_takeWord k s0) (fq_X5_takeWord s0 h0 hs) (fun r_1 u_2 i_u_2 => (xf_p (xf_r i_u_2) (xf_b1 (F := fun k => wp_X5_blame k u_2 (u_2.1 2) (1 : Int32)) (fq_X5_blame u_2 (u_2.1 2) (1 : Int32) h0 i_u_2) (fun u_5 i_u_5 => (xf_r i_u_5))))))
set_option maxHeartbeats 4000000 in
theorem fk_X5_takeNumber_L15  {O : Type} {I : O → Prop} {c0 : Int32} (h0 : ¬ c0 = 0) {G_post : Int32 → Tp → (O → Prop) → Prop} {G_e88 : Tp → Int32 → Int32 → Int32 → (O → Prop) → Prop} (h_post : ∀ (v0 : Int32) (v1 : Tp), v1.1 5 = c0 → xf (G_post v0 v1) I) (h_e88 : ∀ (v0 : Tp) (v1 : Int32) (v2 : Int32) (v3 : Int32), v0.1 5 = c0 → xf (G_e88 v0 v1 v2 v3) I) : ∀ (n : Nat) (t0 : Tp) (z1 : Int32) (z2 : Int32) (z3 : Int32), t0.1 5 = c0 → xf (fun P : O → Prop => wp_X5_takeNumber_L15 (fun v0 v1 => G_post v0 v1 P) (fun v0 v1 v2 v3 => G_e88 v0 v1 v2 v3 P) n t0 z1 z2 z3) I := by
  intro n
  induction n with
  | zero => exact fun _ _ _ _ _ => xf_F
  | succ n15 ih =>
    intro t0 z1 z2 z3 i_t0
    unfold wp_X5_takeNumber_L15
    exact (xf_p (h_e88 t0 z1 z2 z3 i_t0) (xf_b1 (F := fun k => wp_X5_byteAt k t0 (t0.1 1)) (xf_dt (dt_X5_byteAt t0 (t0.1 1))) (fun r_4 _ => (xf_p (h_e88 t0 z1 z2 z3 i_t0) (xf_b1 (F := fun k => wp_X5_byteAt k t0 (t0.1 1)) (xf_dt (dt_X5_byteAt t0 (t0.1 1))) (fun r_7 _ => (xf_p (h_e88 t0 z1 z2 z3 i_t0) (xf_b1 (F := fun k => wp_X5_byteAt k t0 (t0.1 1)) (xf_dt (dt_X5_byteAt t0 (t0.1 1))) (fun r_10 _ => (ih ((va_up t0.1 1 ((t0.1 1) + 1)), t0.2) z1 z2 (if ((((z3 * 10) + r_10) - 48) < (1000 : Int32)) then (((z3 * 10) + r_10) - 48) else (1000 : Int32)) i_t0))))))))))
set_option maxHeartbeats 4000000 in
theorem fq_X5_takeNumber (s0 : Tp) (x1 : Int32) (x2 : Int32) {c0 : Int32} (h0 : ¬ c0 = 0) (hs : s0.1 5 = c0) : xf (fun P : (Int32 × Tp) → Prop => wp_X5_takeNumber (fun a0 a1 => P (a0, a1)) s0 x1 x2) (fun o => o.2.1 5 = c0) := by
  unfold wp_X5_takeNumber
  exact (xf_b2 (F := fun k => wp_X5_peek k s0) (fq_X5_peek s0 h0 hs) (fun r_1 u_2 i_u_2 => (xf_x (fun n15 => (fk_X5_takeNumber_L15  h0 (fun v0 v1 i_v1 => (xf_r i_v1)) (fun t0 z1 z2 z3 i_t0 => (xf_n (xf_p (xf_b1 (F := fun k => wp_X5_blame k t0 (t0.1 2) (2 : Int32)) (fq_X5_blame t0 (t0.1 2) (2 : Int32) h0 i_t0) (fun u_15 i_u_15 => (xf_r i_u_15))) (xf_p (xf_r i_t0) (xf_b1 (F := fun k => wp_X5_blame k t0 (t0.1 2) (2 : Int32)) (fq_X5_blame t0 (t0.1 2) (2 : Int32) h0 i_t0) (fun u_18 i_u_18 => (xf_r i_u_18))))) (xf_b1 (F := fun k => wp_X5_blame k t0 (t0.1 1) (1 : Int32)) (fq_X5_blame t0 (t0.1 1) (1 : Int32) h0 i_t0) (fun u_20 i_u_20 => (xf_r i_u_20))))) n15 ((va_up u_2.1 2 (u_2.1 1)), u_2.2) x1 x2 0 i_u_2)))))
set_option maxHeartbeats 4000000 in
theorem fq_X5_takeByte (s0 : Tp) (x1 : Int32) {c0 : Int32} (h0 : ¬ c0 = 0) (hs : s0.1 5 = c0) : xf (fun P : Tp → Prop => wp_X5_takeByte (fun a0 => P a0) s0 x1) (fun o => o.1 5 = c0) := by
  unfold wp_X5_takeByte
  exact (xf_b2 (F := fun k => wp_X5_peek k s0) (fq_X5_peek s0 h0 hs) (fun r_1 u_2 i_u_2 => (xf_n (xf_b1 (F := fun k => wp_X5_blame k u_2 (u_2.1 1) (1 : Int32)) (fq_X5_blame u_2 (u_2.1 1) (1 : Int32) h0 i_u_2) (fun u_5 i_u_5 => (xf_r i_u_5))) (xf_r i_u_2))))
set_option maxHeartbeats 4000000 in
theorem fk_X5_takeQuoted_L14  {O : Type} {I : O → Prop} {c0 : Int32} (h0 : ¬ c0 = 0) {G_post : Tp → (O → Prop) → Prop} {G_e106 : Tp → Int32 → Int32 → (O → Prop) → Prop} (h_post : ∀ (v0 : Tp), v0.1 5 = c0 → xf (G_post v0) I) (h_e106 : ∀ (v0 : Tp) (v1 : Int32) (v2 : Int32), v0.1 5 = c0 → xf (G_e106 v0 v1 v2) I) : ∀ (n : Nat) (t0 : Tp) (z1 : Int32) (z2 : Int32), t0.1 5 = c0 → xf (fun P : O → Prop => wp_X5_takeQuoted_L14 (fun v0 => G_post v0 P) (fun v0 v1 v2 => G_e106 v0 v1 v2 P) n t0 z1 z2) I := by
  intro n
  induction n with
  | zero => exact fun _ _ _ _ => xf_F
  | succ n14 ih =>
    intro t0 z1 z2 i_t0
    unfold wp_X5_takeQuoted_L14
    exact (xf_p (h_e106 t0 z1 z2 i_t0) (xf_b1 (F := fun k => wp_X5_isSound k t0) (xf_dt (dt_X5_isSound t0)) (fun r_4 _ => (xf_p (h_e106 t0 z1 z2 i_t0) (xf_b1 (F := fun k => wp_X5_byteAt k t0 (t0.1 1)) (xf_dt (dt_X5_byteAt t0 (t0.1 1))) (fun r_7 _ => (xf_p (h_e106 t0 z1 z2 i_t0) (xf_b1 (F := fun k => wp_X5_byteAt k t0 (t0.1 1)) (xf_dt (dt_X5_byteAt t0 (t0.1 1))) (fun r_10 _ => (xf_b1 (F := fun k => wp_X6_isSign k r_10) (xf_dt (dt_X6_isSign r_10)) (fun r_12 _ => (xf_n (xf_p (ih ((va_up t0.1 1 ((t0.1 1) + 1)), t0.2) z1 z2 i_t0) (xf_b1 (F := fun k => wp_X5_blame k t0 (t0.1 1) (2 : Int32)) (fq_X5_blame t0 (t0.1 1) (2 : Int32) h0 i_t0) (fun u_17 i_u_17 => (ih ((va_up u_17.1 1 ((u_17.1 1) + 1)), u_17.2) z1 z2 i_u_17)))) (xf_b1 (F := fun k => wp_X5_blame k t0 (t0.1 1) (1 : Int32)) (fq_X5_blame t0 (t0.1 1) (1 : Int32) h0 i_t0) (fun u_19 i_u_19 => (ih ((va_up u_19.1 1 ((u_19.1 1) + 1)), u_19.2) z1 z2 i_u_19)))))))))))))))
set_option maxHeartbeats 4000000 in
theorem fq_X5_takeQuoted (s0 : Tp) (x1 : Int32) (x2 : Int32) {c0 : Int32} (h0 : ¬ c0 = 0) (hs : s0.1 5 = c0) : xf (fun P : Tp → Prop => wp_X5_takeQuoted (fun a0 => P a0) s0 x1 x2) (fun o => o.1 5 = c0) := by
  unfold wp_X5_takeQuoted
  exact (xf_b1 (F := fun k => wp_X5_takeByte k s0 (39 : Int32)) (fq_X5_takeByte s0 (39 : Int32) h0 hs) (fun u_2 i_u_2 => (xf_x (fun n14 => (fk_X5_takeQuoted_L14  h0 (fun v0 i_v0 => (xf_r i_v0)) (fun t0 z1 z2 i_t0 => (xf_p (xf_p (xf_r i_t0) (xf_b1 (F := fun k => wp_X5_blame k ((va_up t0.1 4 ((t0.1 1) - (t0.1 3))), t0.2) (t0.1 1) (2 : Int32)) (fq_X5_blame ((va_up t0.1 4 ((t0.1 1) - (t0.1 3))), t0.2) (t0.1 1) (2 : Int32) h0 i_t0) (fun u_23 i_u_23 => (xf_r i_u_23)))) (xf_b1 (F := fun k => wp_X5_blame k ((va_up t0.1 4 ((t0.1 1) - (t0.1 3))), t0.2) (t0.1 0) (1 : Int32)) (fq_X5_blame ((va_up t0.1 4 ((t0.1 1) - (t0.1 3))), t0.2) (t0.1 0) (1 : Int32) h0 i_t0) (fun u_25 i_u_25 => (xf_r i_u_25))))) n14 ((va_up u_2.1 3 (u_2.1 1)), u_2.2) x1 x2 i_u_2)))))

set_option maxHeartbeats 4000000 in
theorem fp_X7_sets (s0 : Md) (x1 : Int32) (x2 : Int32) (y3 : Int64) : xf (fun P : Md → Prop => wp_X7_sets (fun a0 => P a0) s0 x1 x2 y3) (fun o => (o.1 0, o.2.2.1 1, o.2.2.1 2, o.2.2.2 0) = (s0.1 0, s0.2.2.1 1, s0.2.2.1 2, s0.2.2.2 0)) := by
  unfold wp_X7_sets
  exact (xf_c (xf_r rfl))
set_option maxHeartbeats 4000000 in
theorem fo_X7_findsTurning_L33  {O : Type} {I : O → Prop} {c0 : (Int32 × (Nat → Int64) × (Nat → Int64) × (Nat → Int32))}  {G_post : Md → (O → Prop) → Prop} {G_e91 : Md → Int64 → Int32 → Int32 → Int32 → (O → Prop) → Prop} (h_post : ∀ (v0 : Md), (v0.1 0, v0.2.2.1 1, v0.2.2.1 2, v0.2.2.2 0) = c0 → xf (G_post v0) I) (h_e91 : ∀ (v0 : Md) (v1 : Int64) (v2 : Int32) (v3 : Int32) (v4 : Int32), (v0.1 0, v0.2.2.1 1, v0.2.2.1 2, v0.2.2.2 0) = c0 → xf (G_e91 v0 v1 v2 v3 v4) I) : ∀ (n : Nat) (t0 : Md) (w1 : Int64) (z3 : Int32) (z4 : Int32) (z5 : Int32), (t0.1 0, t0.2.2.1 1, t0.2.2.1 2, t0.2.2.2 0) = c0 → xf (fun P : O → Prop => wp_X7_findsTurning_L33 (fun v0 => G_post v0 P) (fun v0 v1 v2 v3 v4 => G_e91 v0 v1 v2 v3 v4 P) n t0 w1 z3 z4 z5) I := by
  intro n
  induction n with
  | zero => exact fun _ _ _ _ _ _ => xf_F
  | succ n33 ih =>
    intro t0 w1 z3 z4 z5 i_t0
    unfold wp_X7_findsTurning_L33
    exact (xf_b1 (F := fun k => wp_X7_cells k t0) (xf_dt (dt_X7_cells t0)) (fun r_4 _ => (xf_p (h_e91 t0 w1 z3 z4 z5 i_t0) (xf_b1 (F := fun k => wp_X7_isIn k w1 z5) (xf_dt (dt_X7_isIn w1 z5)) (fun r_7 _ => (xf_n (ih t0 w1 z3 z4 (z5 + 1) i_t0) (xf_b1 (F := fun k => wp_X7_leftOf k t0 z5) (xf_dt (dt_X7_leftOf t0 z5)) (fun r_10 _ => (xf_p (ih t0 w1 z3 z4 (z5 + 1) i_t0) (xf_p (ih t0 w1 z3 z5 (z5 + 1) i_t0) (xf_b1 (F := fun k => wp_X7_leftOf k t0 z5) (xf_dt (dt_X7_leftOf t0 z5)) (fun r_14 _ => (xf_b1 (F := fun k => wp_X7_leftOf k t0 z4) (xf_dt (dt_X7_leftOf t0 z4)) (fun r_16 _ => (xf_p (ih t0 w1 z3 z4 (z5 + 1) i_t0) (ih t0 w1 z3 z5 (z5 + 1) i_t0))))))))))))))))
set_option maxHeartbeats 4000000 in
theorem fo_X7_findsTurning_L19  {O : Type} {I : O → Prop} {c0 : (Int32 × (Nat → Int64) × (Nat → Int64) × (Nat → Int32))}  {G_post : Md → (O → Prop) → Prop} {G_e174 : Md → Int64 → Int32 → (O → Prop) → Prop} (h_post : ∀ (v0 : Md), (v0.1 0, v0.2.2.1 1, v0.2.2.1 2, v0.2.2.2 0) = c0 → xf (G_post v0) I) (h_e174 : ∀ (v0 : Md) (v1 : Int64) (v2 : Int32), (v0.1 0, v0.2.2.1 1, v0.2.2.1 2, v0.2.2.2 0) = c0 → xf (G_e174 v0 v1 v2) I) : ∀ (n : Nat) (t0 : Md) (w1 : Int64) (z3 : Int32), (t0.1 0, t0.2.2.1 1, t0.2.2.1 2, t0.2.2.2 0) = c0 → xf (fun P : O → Prop => wp_X7_findsTurning_L19 (fun v0 => G_post v0 P) (fun v0 v1 v2 => G_e174 v0 v1 v2 P) n t0 w1 z3) I := by
  intro n
  induction n with
  | zero => exact fun _ _ _ _ => xf_F
  | succ n19 ih =>
    intro t0 w1 z3 i_t0
    unfold wp_X7_findsTurning_L19
    exact (xf_b1 (F := fun k => wp_X7_cells k t0) (xf_dt (dt_X7_cells t0)) (fun r_1 _ => (xf_p (h_e174 t0 w1 z3 i_t0) (xf_x (fun n33 => (fo_X7_findsTurning_L33  (fun v0 i_v0 => (h_post v0 i_v0)) (fun t0 w1 z3 z4 z5 i_t0 => (xf_n (xf_b1 (F := fun k => wp_X7_current k t0 z4) (xf_dt (dt_X7_current t0 z4)) (fun r_20 _ => (xf_p (xf_b1 (F := fun k => wp_X7_current k ((va_up t0.1 1 ((t0.1 1) + 1)), (t0.2.1 ||| ((1 : Int64) <<< ((Int32.toInt64 z4) &&& 63))), t0.2.2.1, t0.2.2.2) z4) (xf_dt (dt_X7_current ((va_up t0.1 1 ((t0.1 1) + 1)), (t0.2.1 ||| ((1 : Int64) <<< ((Int32.toInt64 z4) &&& 63))), t0.2.2.1, t0.2.2.2) z4)) (fun r_23 _ => (ih ((va_up (va_up t0.1 1 ((t0.1 1) + 1)) 2 ((t0.1 2) + r_23)), (t0.2.1 ||| ((1 : Int64) <<< ((Int32.toInt64 z4) &&& 63))), t0.2.2.1, t0.2.2.2) (w1 ||| ((1 : Int64) <<< ((Int32.toInt64 z4) &&& 63))) (z3 + 1) i_t0))) (ih t0 (w1 ||| ((1 : Int64) <<< ((Int32.toInt64 z4) &&& 63))) (z3 + 1) i_t0)))) (h_post t0 i_t0))) n33 t0 w1 z3 (-1) 0 i_t0))))))
set_option maxHeartbeats 4000000 in
theorem fp_X7_findsTurning (s0 : Md) : xf (fun P : Md → Prop => wp_X7_findsTurning (fun a0 => P a0) s0) (fun o => (o.1 0, o.2.2.1 1, o.2.2.1 2, o.2.2.2 0) = (s0.1 0, s0.2.2.1 1, s0.2.2.1 2, s0.2.2.2 0)) := by
  unfold wp_X7_findsTurning
  exact (xf_x (fun n19 => (fo_X7_findsTurning_L19  (fun v0 i_v0 => (xf_r i_v0)) (fun t0 w1 z3 i_t0 => (xf_r i_t0)) n19 ((va_up (va_up s0.1 1 0) 2 0), 0, s0.2.2.1, s0.2.2.2) 0 0 rfl)))
set_option maxHeartbeats 4000000 in
theorem fp_X7_wantsFlap (s0 : Md) (x1 : Int32) (x2 : Int32) (x3 : Int32) : xf (fun P : Md → Prop => wp_X7_wantsFlap (fun a0 => P a0) s0 x1 x2 x3) (fun o => (o.1 0, o.2.2.1 1, o.2.2.1 2, o.2.2.2 0) = (s0.1 0, s0.2.2.1 1, s0.2.2.1 2, s0.2.2.2 0)) := by
  unfold wp_X7_wantsFlap
  exact (xf_b1 (F := fun k => wp_X7_sets k s0 x1 (3 : Int32) (Int32.toInt64 x2)) (fp_X7_sets s0 x1 (3 : Int32) (Int32.toInt64 x2)) (fun u_2 j_u_2 => have i_u_2 := j_u_2.trans rfl; (xf_p (xf_r i_u_2) (xf_b1 (F := fun k => wp_X7_of k u_2 x1 (2 : Int32)) (xf_dt (dt_X7_of u_2 x1 (2 : Int32))) (fun r_4 _ => (xf_p (xf_r i_u_2) (xf_b1 (F := fun k => wp_X7_of k u_2 x1 (0 : Int32)) (xf_dt (dt_X7_of u_2 x1 (0 : Int32))) (fun r_7 _ => (xf_b1 (F := fun k => wp_X7_of k u_2 x1 (2 : Int32)) (xf_dt (dt_X7_of u_2 x1 (2 : Int32))) (fun r_9 _ => (xf_c (xf_c (xf_r i_u_2)))))))))))))
set_option maxHeartbeats 4000000 in
theorem fo_X7_wantsSigns_L6  {O : Type} {I : O → Prop} {c0 : (Int32 × (Nat → Int64) × (Nat → Int64) × (Nat → Int32))}  {G_post : Int32 → Md → (O → Prop) → Prop} {G_e81 : Md → Int32 → Int32 → Int32 → Int32 → Int32 → Int32 → (O → Prop) → Prop} (h_post : ∀ (v0 : Int32) (v1 : Md), (v1.1 0, v1.2.2.1 1, v1.2.2.1 2, v1.2.2.2 0) = c0 → xf (G_post v0 v1) I) (h_e81 : ∀ (v0 : Md) (v1 : Int32) (v2 : Int32) (v3 : Int32) (v4 : Int32) (v5 : Int32) (v6 : Int32), (v0.1 0, v0.2.2.1 1, v0.2.2.1 2, v0.2.2.2 0) = c0 → xf (G_e81 v0 v1 v2 v3 v4 v5 v6) I) : ∀ (n : Nat) (t0 : Md) (z1 : Int32) (z2 : Int32) (z3 : Int32) (z4 : Int32) (z5 : Int32) (z6 : Int32), (t0.1 0, t0.2.2.1 1, t0.2.2.1 2, t0.2.2.2 0) = c0 → xf (fun P : O → Prop => wp_X7_wantsSigns_L6 (fun v0 v1 => G_post v0 v1 P) (fun v0 v1 v2 v3 v4 v5 v6 => G_e81 v0 v1 v2 v3 v4 v5 v6 P) n t0 z1 z2 z3 z4 z5 z6) I := by
  intro n
  induction n with
  | zero => exact fun _ _ _ _ _ _ _ _ => xf_F
  | succ n6 ih =>
    intro t0 z1 z2 z3 z4 z5 z6 i_t0
    unfold wp_X7_wantsSigns_L6
    exact (xf_b1 (F := fun k => wp_X7_wide k t0) (xf_dt (dt_X7_wide t0)) (fun r_1 _ => (xf_p (h_e81 t0 z1 z2 z3 z4 z5 z6 i_t0) (xf_b1 (F := fun k => wp_X7_wide k t0) (xf_dt (dt_X7_wide t0)) (fun r_4 _ => (xf_p (xf_b1 (F := fun k => wp_X7_wantsFlap k t0 ((r_4 * z1) + z6) (0 : Int32) z4) (fp_X7_wantsFlap t0 ((r_4 * z1) + z6) (0 : Int32) z4) (fun u_8 j_u_8 => have i_u_8 := j_u_8.trans i_t0; (ih u_8 z1 z2 z3 z4 z5 (z6 + 1) i_u_8))) (xf_c (xf_b1 (F := fun k => wp_X7_flapFor k t0 ((r_4 * z1) + z6) ((t0.2.2.2 2) (Int32.toNatClampNeg (z2 + z6)))) (xf_dt (dt_X7_flapFor t0 ((r_4 * z1) + z6) ((t0.2.2.2 2) (Int32.toNatClampNeg (z2 + z6))))) (fun r_10 _ => (xf_n (xf_b1 (F := fun k => wp_X7_wantsFlap k t0 ((r_4 * z1) + z6) r_10 z4) (fp_X7_wantsFlap t0 ((r_4 * z1) + z6) r_10 z4) (fun u_14 j_u_14 => have i_u_14 := j_u_14.trans i_t0; (ih u_14 z1 z2 z3 z4 z5 (z6 + 1) i_u_14))) (ih t0 z1 z2 z3 z4 (z5 + 1) (z6 + 1) i_t0)))))))))))
set_option maxHeartbeats 4000000 in
theorem fp_X7_wantsSigns (s0 : Md) (x1 : Int32) (x2 : Int32) (x3 : Int32) (x4 : Int32) : xf (fun P : (Int32 × Md) → Prop => wp_X7_wantsSigns (fun a0 a1 => P (a0, a1)) s0 x1 x2 x3 x4) (fun o => (o.2.1 0, o.2.2.2.1 1, o.2.2.2.1 2, o.2.2.2.2 0) = (s0.1 0, s0.2.2.1 1, s0.2.2.1 2, s0.2.2.2 0)) := by
  unfold wp_X7_wantsSigns
  exact (xf_x (fun n6 => (fo_X7_wantsSigns_L6  (fun v0 v1 i_v1 => (xf_r i_v1)) (fun t0 z1 z2 z3 z4 z5 z6 i_t0 => (xf_r i_t0)) n6 s0 x1 x2 x3 x4 0 0 rfl)))
set_option maxHeartbeats 4000000 in
theorem fp_X7_wears (s0 : Md) (x1 : Int32) (x2 : Int32) : xf (fun P : Md → Prop => wp_X7_wears (fun a0 => P a0) s0 x1 x2) (fun o => (o.1 0, o.2.2.1 1, o.2.2.1 2, o.2.2.2 0) = (s0.1 0, s0.2.2.1 1, s0.2.2.1 2, s0.2.2.2 0)) := by
  unfold wp_X7_wears
  exact (xf_b1 (F := fun k => wp_X7_wornOf k s0 x1) (xf_dt (dt_X7_wornOf s0 x1)) (fun r_1 _ => (xf_b1 (F := fun k => wp_X7_sets k s0 x1 (7 : Int32) (r_1 ||| ((1 : Int64) <<< ((Int32.toInt64 x2) &&& 63)))) (fp_X7_sets s0 x1 (7 : Int32) (r_1 ||| ((1 : Int64) <<< ((Int32.toInt64 x2) &&& 63)))) (fun u_4 j_u_4 => have i_u_4 := j_u_4.trans rfl; (xf_b1 (F := fun k => wp_X7_of k u_4 x1 (3 : Int32)) (xf_dt (dt_X7_of u_4 x1 (3 : Int32))) (fun r_5 _ => (xf_n (xf_r i_u_4) (xf_b1 (F := fun k => wp_X7_sets k u_4 x1 (3 : Int32) (0 : Int64)) (fp_X7_sets u_4 x1 (3 : Int32) (0 : Int64)) (fun u_9 j_u_9 => have i_u_9 := j_u_9.trans i_u_4; (xf_r i_u_9))))))))))
set_option maxHeartbeats 4000000 in
theorem fo_X7_which_L32  {O : Type} {I : O → Prop} {c0 : (Int32 × (Nat → Int64) × (Nat → Int64) × (Nat → Int32))}  {G_post : Int64 → Md → (O → Prop) → Prop} {G_e64 : Md → Int32 → Int64 → Int32 → (O → Prop) → Prop} (h_post : ∀ (v0 : Int64) (v1 : Md), (v1.1 0, v1.2.2.1 1, v1.2.2.1 2, v1.2.2.2 0) = c0 → xf (G_post v0 v1) I) (h_e64 : ∀ (v0 : Md) (v1 : Int32) (v2 : Int64) (v3 : Int32), (v0.1 0, v0.2.2.1 1, v0.2.2.1 2, v0.2.2.2 0) = c0 → xf (G_e64 v0 v1 v2 v3) I) : ∀ (n : Nat) (t0 : Md) (z1 : Int32) (w2 : Int64) (z4 : Int32), (t0.1 0, t0.2.2.1 1, t0.2.2.1 2, t0.2.2.2 0) = c0 → xf (fun P : O → Prop => wp_X7_which_L32 (fun v0 v1 => G_post v0 v1 P) (fun v0 v1 v2 v3 => G_e64 v0 v1 v2 v3 P) n t0 z1 w2 z4) I := by
  intro n
  induction n with
  | zero => exact fun _ _ _ _ _ => xf_F
  | succ n32 ih =>
    intro t0 z1 w2 z4 i_t0
    unfold wp_X7_which_L32
    exact (xf_b1 (F := fun k => wp_X7_cells k t0) (xf_dt (dt_X7_cells t0)) (fun r_9 _ => (xf_p (h_e64 t0 z1 w2 z4 i_t0) (xf_b1 (F := fun k => wp_X7_isSuch k t0 z4 z1) (xf_dt (dt_X7_isSuch t0 z4 z1)) (fun r_12 _ => (xf_p (ih t0 z1 w2 (z4 + 1) i_t0) (ih t0 z1 (w2 ||| ((1 : Int64) <<< ((Int32.toInt64 z4) &&& 63))) (z4 + 1) i_t0)))))))
set_option maxHeartbeats 4000000 in
theorem fp_X7_which (s0 : Md) (x1 : Int32) : xf (fun P : (Int64 × Md) → Prop => wp_X7_which (fun a0 a1 => P (a0, a1)) s0 x1) (fun o => (o.2.1 0, o.2.2.2.1 1, o.2.2.2.1 2, o.2.2.2.2 0) = (s0.1 0, s0.2.2.1 1, s0.2.2.1 2, s0.2.2.2 0)) := by
  unfold wp_X7_which
  exact (xf_b1 (F := fun k => wp_X7_isBoard k s0) (xf_dt (dt_X7_isBoard s0)) (fun r_1 _ => (xf_p (xf_r rfl) (xf_b1 (F := fun k => wp_X7_in k (Int32.toInt64 x1) (0 : Int64) (4 : Int64)) (xf_dt (dt_X7_in (Int32.toInt64 x1) (0 : Int64) (4 : Int64))) (fun r_4 _ => (xf_n (xf_b1 (F := fun k => wp_X7_findsTurning k s0) (fp_X7_findsTurning s0) (fun u_8 j_u_8 => have i_u_8 := j_u_8.trans rfl; (xf_x (fun n32 => (fo_X7_which_L32  (fun v0 v1 i_v1 => (xf_r i_v1)) (fun t0 z1 w2 z4 i_t0 => (xf_r i_t0)) n32 u_8 x1 0 0 i_u_8))))) (xf_r rfl)))))))
set_option maxHeartbeats 4000000 in
theorem fo_X7_asks_L13  {O : Type} {I : O → Prop} {c0 : (Int32 × (Nat → Int64) × (Nat → Int64) × (Nat → Int32))}  {G_post : Md → (O → Prop) → Prop} {G_e135 : Md → Int32 → Int32 → Int32 → Int32 → Int32 → (O → Prop) → Prop} (h_post : ∀ (v0 : Md), (v0.1 0, v0.2.2.1 1, v0.2.2.1 2, v0.2.2.2 0) = c0 → xf (G_post v0) I) (h_e135 : ∀ (v0 : Md) (v1 : Int32) (v2 : Int32) (v3 : Int32) (v4 : Int32) (v5 : Int32), (v0.1 0, v0.2.2.1 1, v0.2.2.1 2, v0.2.2.2 0) = c0 → xf (G_e135 v0 v1 v2 v3 v4 v5) I) : ∀ (n : Nat) (t0 : Md) (z1 : Int32) (z2 : Int32) (z3 : Int32) (z4 : Int32) (z5 : Int32), (t0.1 0, t0.2.2.1 1, t0.2.2.1 2, t0.2.2.2 0) = c0 → xf (fun P : O → Prop => wp_X7_asks_L13 (fun v0 => G_post v0 P) (fun v0 v1 v2 v3 v4 v5 => G_e135 v0 v1 v2 v3 v4 v5 P) n t0 z1 z2 z3 z4 z5) I := by
  intro n
  induction n with
  | zero => exact fun _ _ _ _ _ _ _ => xf_F
  | succ n13 ih =>
    intro t0 z1 z2 z3 z4 z5 i_t0
    unfold wp_X7_asks_L13
    exact (xf_b1 (F := fun k => wp_X7_wide k t0) (xf_dt (dt_X7_wide t0)) (fun r_1 _ => (xf_p (h_e135 t0 z1 z2 z3 z4 z5 i_t0) (xf_b1 (F := fun k => wp_X7_wide k t0) (xf_dt (dt_X7_wide t0)) (fun r_4 _ => (xf_p (xf_b1 (F := fun k => wp_X7_of k t0 ((r_4 * z1) + z5) (2 : Int32)) (xf_dt (dt_X7_of t0 ((r_4 * z1) + z5) (2 : Int32))) (fun r_7 _ => (xf_b1 (F := fun k => wp_X7_flaps k t0 ((r_4 * z1) + z5)) (xf_dt (dt_X7_flaps t0 ((r_4 * z1) + z5))) (fun r_9 _ => (xf_b1 (F := fun k => wp_X7_on k r_7 (0 : Int32) r_9) (xf_dt (dt_X7_on r_7 (0 : Int32) r_9)) (fun r_11 _ => (ih ((va_up t0.1 3 ((t0.1 3) + r_11)), t0.2.1, t0.2.2.1, t0.2.2.2) z1 z2 z3 z4 (z5 + 1) i_t0))))))) (xf_p (xf_b1 (F := fun k => wp_X7_of k t0 ((r_4 * z1) + z5) (2 : Int32)) (xf_dt (dt_X7_of t0 ((r_4 * z1) + z5) (2 : Int32))) (fun r_14 _ => (xf_b1 (F := fun k => wp_X7_flaps k t0 ((r_4 * z1) + z5)) (xf_dt (dt_X7_flaps t0 ((r_4 * z1) + z5))) (fun r_16 _ => (xf_b1 (F := fun k => wp_X7_on k r_14 (0 : Int32) r_16) (xf_dt (dt_X7_on r_14 (0 : Int32) r_16)) (fun r_18 _ => (ih ((va_up t0.1 3 ((t0.1 3) + r_18)), t0.2.1, t0.2.2.1, t0.2.2.2) z1 z2 z3 z4 (z5 + 1) i_t0))))))) (xf_c (xf_b1 (F := fun k => wp_X7_flapFor k t0 ((r_4 * z1) + z5) ((t0.2.2.2 2) (Int32.toNatClampNeg ((z3 + z5) - z2)))) (xf_dt (dt_X7_flapFor t0 ((r_4 * z1) + z5) ((t0.2.2.2 2) (Int32.toNatClampNeg ((z3 + z5) - z2))))) (fun r_21 _ => (xf_n (xf_b1 (F := fun k => wp_X7_of k t0 ((r_4 * z1) + z5) (2 : Int32)) (xf_dt (dt_X7_of t0 ((r_4 * z1) + z5) (2 : Int32))) (fun r_24 _ => (xf_b1 (F := fun k => wp_X7_flaps k t0 ((r_4 * z1) + z5)) (xf_dt (dt_X7_flaps t0 ((r_4 * z1) + z5))) (fun r_26 _ => (xf_b1 (F := fun k => wp_X7_on k r_24 r_21 r_26) (xf_dt (dt_X7_on r_24 r_21 r_26)) (fun r_28 _ => (ih ((va_up t0.1 3 ((t0.1 3) + r_28)), t0.2.1, t0.2.2.1, t0.2.2.2) z1 z2 z3 z4 (z5 + 1) i_t0))))))) (ih ((va_up t0.1 4 ((t0.1 4) + 1)), t0.2.1, t0.2.2.1, t0.2.2.2) z1 z2 z3 z4 (z5 + 1) i_t0))))))))))))
set_option maxHeartbeats 4000000 in
theorem fp_X7_asks (s0 : Md) (x1 : Int32) (x2 : Int32) (x3 : Int32) (x4 : Int32) : xf (fun P : Md → Prop => wp_X7_asks (fun a0 => P a0) s0 x1 x2 x3 x4) (fun o => (o.1 0, o.2.2.1 1, o.2.2.1 2, o.2.2.2 0) = (s0.1 0, s0.2.2.1 1, s0.2.2.1 2, s0.2.2.2 0)) := by
  unfold wp_X7_asks
  exact (xf_x (fun n13 => (fo_X7_asks_L13  (fun v0 i_v0 => (xf_r i_v0)) (fun t0 z1 z2 z3 z4 z5 i_t0 => (xf_r i_t0)) n13 ((va_up (va_up s0.1 3 0) 4 0), s0.2.1, s0.2.2.1, s0.2.2.2) x1 x2 x3 x4 0 rfl)))
set_option maxHeartbeats 4000000 in
theorem fp_X7_cost (s0 : Md) (x1 : Int32) : xf (fun P : (Int32 × Md) → Prop => wp_X7_cost (fun a0 a1 => P (a0, a1)) s0 x1) (fun o => (o.2.1 0, o.2.2.2.1 1, o.2.2.2.1 2, o.2.2.2.2 0) = (s0.1 0, s0.2.2.1 1, s0.2.2.1 2, s0.2.2.2 0)) := by
  unfold wp_X7_cost
  exact (xf_b1 (F := fun k => wp_X7_isRow k s0 x1) (xf_dt (dt_X7_isRow s0 x1)) (fun r_1 _ => (xf_n (xf_b1 (F := fun k => wp_X7_isRowText k s0 (s0.1 5)) (xf_dt (dt_X7_isRowText s0 (s0.1 5))) (fun r_4 _ => (xf_n (xf_b1 (F := fun k => wp_X7_asks k s0 x1 (0 : Int32) (0 : Int32) (s0.1 5)) (fp_X7_asks s0 x1 (0 : Int32) (0 : Int32) (s0.1 5)) (fun u_8 j_u_8 => have i_u_8 := j_u_8.trans rfl; (xf_r i_u_8))) (xf_r rfl)))) (xf_r rfl))))
set_option maxHeartbeats 4000000 in
theorem fo_X7_best_L36  {O : Type} {I : O → Prop} {c0 : (Int32 × (Nat → Int64) × (Nat → Int64) × (Nat → Int32))}  {G_post : Int32 → Md → (O → Prop) → Prop} {G_e152 : Md → Int32 → Int32 → Int32 → Int32 → Int32 → Int32 → Int32 → (O → Prop) → Prop} (h_post : ∀ (v0 : Int32) (v1 : Md), (v1.1 0, v1.2.2.1 1, v1.2.2.1 2, v1.2.2.2 0) = c0 → xf (G_post v0 v1) I) (h_e152 : ∀ (v0 : Md) (v1 : Int32) (v2 : Int32) (v3 : Int32) (v4 : Int32) (v5 : Int32) (v6 : Int32) (v7 : Int32), (v0.1 0, v0.2.2.1 1, v0.2.2.1 2, v0.2.2.2 0) = c0 → xf (G_e152 v0 v1 v2 v3 v4 v5 v6 v7) I) : ∀ (n : Nat) (t0 : Md) (z1 : Int32) (z2 : Int32) (z3 : Int32) (z4 : Int32) (z5 : Int32) (z6 : Int32) (z7 : Int32), (t0.1 0, t0.2.2.1 1, t0.2.2.1 2, t0.2.2.2 0) = c0 → xf (fun P : O → Prop => wp_X7_best_L36 (fun v0 v1 => G_post v0 v1 P) (fun v0 v1 v2 v3 v4 v5 v6 v7 => G_e152 v0 v1 v2 v3 v4 v5 v6 v7 P) n t0 z1 z2 z3 z4 z5 z6 z7) I := by
  intro n
  induction n with
  | zero => exact fun _ _ _ _ _ _ _ _ _ => xf_F
  | succ n36 ih =>
    intro t0 z1 z2 z3 z4 z5 z6 z7 i_t0
    unfold wp_X7_best_L36
    exact (xf_p (h_e152 t0 z1 z2 z3 z4 z5 z6 z7 i_t0) (xf_b1 (F := fun k => wp_X7_endOf k t0 z7) (xf_dt (dt_X7_endOf t0 z7)) (fun r_8 _ => (xf_b1 (F := fun k => wp_X7_wide k t0) (xf_dt (dt_X7_wide t0)) (fun r_10 _ => (xf_p (h_post (-2) t0 i_t0) (xf_b1 (F := fun k => wp_X7_areSigns k t0 z7 (r_8 - z7)) (xf_dt (dt_X7_areSigns t0 z7 (r_8 - z7))) (fun r_13 _ => (xf_n (xf_b1 (F := fun k => wp_X7_asks k t0 z1 (0 : Int32) z7 (r_8 - z7)) (fp_X7_asks t0 z1 (0 : Int32) z7 (r_8 - z7)) (fun u_17 j_u_17 => have i_u_17 := j_u_17.trans i_t0; (xf_p (xf_b1 (F := fun k => wp_X7_endOf k u_17 z7) (xf_dt (dt_X7_endOf u_17 z7)) (fun r_19 _ => (ih u_17 z1 z2 z6 (u_17.1 3) (u_17.1 4) (z6 + 1) (r_19 + 1) i_u_17))) (xf_p (xf_b1 (F := fun k => wp_X7_endOf k u_17 z7) (xf_dt (dt_X7_endOf u_17 z7)) (fun r_22 _ => (ih u_17 z1 z2 z6 (u_17.1 3) (u_17.1 4) (z6 + 1) (r_22 + 1) i_u_17))) (xf_n (xf_b1 (F := fun k => wp_X7_endOf k u_17 z7) (xf_dt (dt_X7_endOf u_17 z7)) (fun r_25 _ => (ih u_17 z1 z2 z3 z4 z5 (z6 + 1) (r_25 + 1) i_u_17))) (xf_p (xf_b1 (F := fun k => wp_X7_endOf k u_17 z7) (xf_dt (dt_X7_endOf u_17 z7)) (fun r_28 _ => (ih u_17 z1 z2 z3 z4 z5 (z6 + 1) (r_28 + 1) i_u_17))) (xf_b1 (F := fun k => wp_X7_endOf k u_17 z7) (xf_dt (dt_X7_endOf u_17 z7)) (fun r_30 _ => (ih u_17 z1 z2 z6 (u_17.1 3) (u_17.1 4) (z6 + 1) (r_30 + 1) i_u_17))))))))) (h_post (-2) t0 i_t0))))))))))
set_option maxHeartbeats 4000000 in
theorem fp_X7_best (s0 : Md) (x1 : Int32) (x2 : Int32) : xf (fun P : (Int32 × Md) → Prop => wp_X7_best (fun a0 a1 => P (a0, a1)) s0 x1 x2) (fun o => (o.2.1 0, o.2.2.2.1 1, o.2.2.2.1 2, o.2.2.2.2 0) = (s0.1 0, s0.2.2.1 1, s0.2.2.1 2, s0.2.2.2 0)) := by
  unfold wp_X7_best
  exact (xf_b1 (F := fun k => wp_X7_isRow k s0 x1) (xf_dt (dt_X7_isRow s0 x1)) (fun r_1 _ => (xf_p (xf_r rfl) (xf_b1 (F := fun k => wp_X7_in k (Int32.toInt64 x2) (0 : Int64) (2 : Int64)) (xf_dt (dt_X7_in (Int32.toInt64 x2) (0 : Int64) (2 : Int64))) (fun r_4 _ => (xf_n (xf_x (fun n36 => (fo_X7_best_L36  (fun v0 v1 i_v1 => (xf_r i_v1)) (fun t0 z1 z2 z3 z4 z5 z6 z7 i_t0 => (xf_n (xf_n (xf_r i_t0) (xf_r i_t0)) (xf_r i_t0))) n36 s0 x1 x2 (-1) 0 0 0 0 rfl))) (xf_r rfl)))))))
set_option maxHeartbeats 4000000 in
theorem fo_X7_place_L52  {O : Type} {I : O → Prop} {c0 : (Int32 × (Nat → Int64) × (Nat → Int64) × (Nat → Int32))}  {G_post : Int32 → Md → (O → Prop) → Prop} {G_e134 : Md → Int32 → Int32 → Int32 → Int32 → Int32 → Int32 → (O → Prop) → Prop} (h_post : ∀ (v0 : Int32) (v1 : Md), (v1.1 0, v1.2.2.1 1, v1.2.2.1 2, v1.2.2.2 0) = c0 → xf (G_post v0 v1) I) (h_e134 : ∀ (v0 : Md) (v1 : Int32) (v2 : Int32) (v3 : Int32) (v4 : Int32) (v5 : Int32) (v6 : Int32), (v0.1 0, v0.2.2.1 1, v0.2.2.1 2, v0.2.2.2 0) = c0 → xf (G_e134 v0 v1 v2 v3 v4 v5 v6) I) : ∀ (n : Nat) (t0 : Md) (z1 : Int32) (z2 : Int32) (z3 : Int32) (z4 : Int32) (z5 : Int32) (z6 : Int32), (t0.1 0, t0.2.2.1 1, t0.2.2.1 2, t0.2.2.2 0) = c0 → xf (fun P : O → Prop => wp_X7_place_L52 (fun v0 v1 => G_post v0 v1 P) (fun v0 v1 v2 v3 v4 v5 v6 => G_e134 v0 v1 v2 v3 v4 v5 v6 P) n t0 z1 z2 z3 z4 z5 z6) I := by
  intro n
  induction n with
  | zero => exact fun _ _ _ _ _ _ _ _ => xf_F
  | succ n52 ih =>
    intro t0 z1 z2 z3 z4 z5 z6 i_t0
    unfold wp_X7_place_L52
    exact (xf_b1 (F := fun k => wp_X7_wide k t0) (xf_dt (dt_X7_wide t0)) (fun r_11 _ => (xf_p (h_e134 t0 z1 z2 z3 z4 z5 z6 i_t0) (xf_b1 (F := fun k => wp_X7_asks k t0 z1 z6 (0 : Int32) (t0.1 5)) (fp_X7_asks t0 z1 z6 (0 : Int32) (t0.1 5)) (fun u_15 j_u_15 => have i_u_15 := j_u_15.trans i_t0; (xf_p (ih u_15 z1 z2 z6 (u_15.1 3) (u_15.1 4) (z6 + 1) i_u_15) (xf_p (ih u_15 z1 z2 z3 z4 z5 (z6 + 1) i_u_15) (xf_n (ih u_15 z1 z2 z6 (u_15.1 3) (u_15.1 4) (z6 + 1) i_u_15) (xf_p (ih u_15 z1 z2 z6 (u_15.1 3) (u_15.1 4) (z6 + 1) i_u_15) (ih u_15 z1 z2 z3 z4 z5 (z6 + 1) i_u_15))))))))))
set_option maxHeartbeats 4000000 in
theorem fp_X7_place (s0 : Md) (x1 : Int32) (x2 : Int32) : xf (fun P : (Int32 × Md) → Prop => wp_X7_place (fun a0 a1 => P (a0, a1)) s0 x1 x2) (fun o => (o.2.1 0, o.2.2.2.1 1, o.2.2.2.1 2, o.2.2.2.2 0) = (s0.1 0, s0.2.2.1 1, s0.2.2.1 2, s0.2.2.2 0)) := by
  unfold wp_X7_place
  exact (xf_b1 (F := fun k => wp_X7_isRow k s0 x1) (xf_dt (dt_X7_isRow s0 x1)) (fun r_1 _ => (xf_p (xf_r rfl) (xf_b1 (F := fun k => wp_X7_in k (Int32.toInt64 x2) (0 : Int64) (1 : Int64)) (xf_dt (dt_X7_in (Int32.toInt64 x2) (0 : Int64) (1 : Int64))) (fun r_4 _ => (xf_n (xf_p (xf_r rfl) (xf_b1 (F := fun k => wp_X7_isRowText k s0 (s0.1 5)) (xf_dt (dt_X7_isRowText s0 (s0.1 5))) (fun r_8 _ => (xf_n (xf_x (fun n52 => (fo_X7_place_L52  (fun v0 v1 i_v1 => (xf_r i_v1)) (fun t0 z1 z2 z3 z4 z5 z6 i_t0 => (xf_n (xf_r i_t0) (xf_r i_t0))) n52 s0 x1 x2 (-1) 0 0 0 rfl))) (xf_r rfl))))) (xf_r rfl)))))))
set_option maxHeartbeats 4000000 in
theorem fo_X7_lays_L3  {O : Type} {I : O → Prop} {c0 : (Int32 × (Nat → Int64) × (Nat → Int64) × (Nat → Int32))}  {G_post : Md → (O → Prop) → Prop} {G_e36 : Md → Int32 → Int32 → (O → Prop) → Prop} (h_post : ∀ (v0 : Md), (v0.1 0, v0.2.2.1 1, v0.2.2.1 2, v0.2.2.2 0) = c0 → xf (G_post v0) I) (h_e36 : ∀ (v0 : Md) (v1 : Int32) (v2 : Int32), (v0.1 0, v0.2.2.1 1, v0.2.2.1 2, v0.2.2.2 0) = c0 → xf (G_e36 v0 v1 v2) I) : ∀ (n : Nat) (t0 : Md) (z1 : Int32) (z2 : Int32), (t0.1 0, t0.2.2.1 1, t0.2.2.1 2, t0.2.2.2 0) = c0 → xf (fun P : O → Prop => wp_X7_lays_L3 (fun v0 => G_post v0 P) (fun v0 v1 v2 => G_e36 v0 v1 v2 P) n t0 z1 z2) I := by
  intro n
  induction n with
  | zero => exact fun _ _ _ _ => xf_F
  | succ n3 ih =>
    intro t0 z1 z2 i_t0
    unfold wp_X7_lays_L3
    exact (xf_p (h_e36 t0 z1 z2 i_t0) (xf_c (ih ((va_up t0.1 5 ((t0.1 5) + 1)), t0.2.1, t0.2.2.1, (va_up t0.2.2.2 2 (upd (t0.2.2.2 2) (Int32.toNatClampNeg (t0.1 5)) (vp_nar .byte (Int8.toInt32 (Int32.toInt8 (z1 >>> (z2 &&& 31)))))))) z1 (z2 + (-8)) i_t0)))
set_option maxHeartbeats 4000000 in
theorem fp_X7_lays (s0 : Md) (x1 : Int32) : xf (fun P : Md → Prop => wp_X7_lays (fun a0 => P a0) s0 x1) (fun o => (o.1 0, o.2.2.1 1, o.2.2.1 2, o.2.2.2 0) = (s0.1 0, s0.2.2.1 1, s0.2.2.1 2, s0.2.2.2 0)) := by
  unfold wp_X7_lays
  exact (xf_x (fun n3 => (fo_X7_lays_L3  (fun v0 i_v0 => (xf_r i_v0)) (fun t0 z1 z2 i_t0 => (xf_r i_t0)) n3 s0 x1 24 rfl)))
set_option maxHeartbeats 4000000 in
theorem fp_X7_feed (s0 : Md) (x1 : Int32) (x2 : Int32) (x3 : Int32) (x4 : Int32) (x5 : Int32) : xf (fun P : (Int32 × Md) → Prop => wp_X7_feed (fun a0 a1 => P (a0, a1)) s0 x1 x2 x3 x4 x5) (fun o => (o.2.1 0, o.2.2.2.1 1, o.2.2.2.1 2, o.2.2.2.2 0) = (s0.1 0, s0.2.2.1 1, s0.2.2.1 2, s0.2.2.2 0)) := by
  unfold wp_X7_feed
  exact (xf_p (xf_b1 (F := fun k => wp_X7_lays k s0 x1) (fp_X7_lays s0 x1) (fun u_3 j_u_3 => have i_u_3 := j_u_3.trans rfl; (xf_b1 (F := fun k => wp_X7_lays k u_3 x2) (fp_X7_lays u_3 x2) (fun u_5 j_u_5 => have i_u_5 := j_u_5.trans i_u_3; (xf_b1 (F := fun k => wp_X7_lays k u_5 x3) (fp_X7_lays u_5 x3) (fun u_7 j_u_7 => have i_u_7 := j_u_7.trans i_u_5; (xf_b1 (F := fun k => wp_X7_lays k u_7 x4) (fp_X7_lays u_7 x4) (fun u_9 j_u_9 => have i_u_9 := j_u_9.trans i_u_7; (xf_b1 (F := fun k => wp_X7_lays k u_9 x5) (fp_X7_lays u_9 x5) (fun u_11 j_u_11 => have i_u_11 := j_u_11.trans i_u_9; (xf_r i_u_11))))))))))) (xf_r rfl))
set_option maxHeartbeats 4000000 in
theorem fp_X7_end (s0 : Md) (x1 : Int32) : xf (fun P : (Int32 × Md) → Prop => wp_X7_end (fun a0 a1 => P (a0, a1)) s0 x1) (fun o => (o.2.1 0, o.2.2.2.1 1, o.2.2.2.1 2, o.2.2.2.2 0) = (s0.1 0, s0.2.2.1 1, s0.2.2.1 2, s0.2.2.2 0)) := by
  unfold wp_X7_end
  exact (xf_b1 (F := fun k => wp_X7_in k (Int32.toInt64 x1) (0 : Int64) (Int32.toInt64 (s0.1 5))) (xf_dt (dt_X7_in (Int32.toInt64 x1) (0 : Int64) (Int32.toInt64 (s0.1 5)))) (fun r_1 _ => (xf_n (xf_r rfl) (xf_r rfl))))
set_option maxHeartbeats 4000000 in
theorem fo_X7_nextByte_L0  {O : Type} {I : O → Prop} {c0 : (Int32 × (Nat → Int64) × (Nat → Int64) × (Nat → Int32))}  {G_post : Int32 → Md → (O → Prop) → Prop} {G_e26 : Md → (O → Prop) → Prop} (h_post : ∀ (v0 : Int32) (v1 : Md), (v1.1 0, v1.2.2.1 1, v1.2.2.1 2, v1.2.2.2 0) = c0 → xf (G_post v0 v1) I) (h_e26 : ∀ (v0 : Md), (v0.1 0, v0.2.2.1 1, v0.2.2.1 2, v0.2.2.2 0) = c0 → xf (G_e26 v0) I) : ∀ (n : Nat) (t0 : Md), (t0.1 0, t0.2.2.1 1, t0.2.2.1 2, t0.2.2.2 0) = c0 → xf (fun P : O → Prop => wp_X7_nextByte_L0 (fun v0 v1 => G_post v0 v1 P) (fun v0 => G_e26 v0 P) n t0) I := by
  intro n
  induction n with
  | zero => exact fun _ _ => xf_F
  | succ n0 ih =>
    intro t0 i_t0
    unfold wp_X7_nextByte_L0
    exact (xf_b1 (F := fun k => wp_X7_byteAt k t0 (t0.1 6)) (xf_dt (dt_X7_byteAt t0 (t0.1 6))) (fun r_1 _ => (xf_n (h_e26 t0 i_t0) (ih ((va_up t0.1 6 ((t0.1 6) + 1)), t0.2.1, t0.2.2.1, t0.2.2.2) i_t0))))
set_option maxHeartbeats 4000000 in
theorem fp_X7_nextByte (s0 : Md) : xf (fun P : (Int32 × Md) → Prop => wp_X7_nextByte (fun a0 a1 => P (a0, a1)) s0) (fun o => (o.2.1 0, o.2.2.2.1 1, o.2.2.2.1 2, o.2.2.2.2 0) = (s0.1 0, s0.2.2.1 1, s0.2.2.1 2, s0.2.2.2 0)) := by
  unfold wp_X7_nextByte
  exact (xf_x (fun n0 => (fo_X7_nextByte_L0  (fun v0 v1 i_v1 => (xf_r i_v1)) (fun t0 i_t0 => (xf_b1 (F := fun k => wp_X7_byteAt k t0 (t0.1 6)) (xf_dt (dt_X7_byteAt t0 (t0.1 6))) (fun r_4 _ => (xf_r i_t0)))) n0 s0 rfl)))
set_option maxHeartbeats 4000000 in
theorem fp_X7_fails (s0 : Md) (x1 : Int32) (x2 : Int32) : xf (fun P : (Int32 × Md) → Prop => wp_X7_fails (fun a0 a1 => P (a0, a1)) s0 x1 x2) (fun o => (o.2.1 0, o.2.2.2.1 1, o.2.2.2.1 2, o.2.2.2.2 0) = (s0.1 0, s0.2.2.1 1, s0.2.2.1 2, s0.2.2.2 0)) := by
  unfold wp_X7_fails
  exact (xf_r rfl)
set_option maxHeartbeats 4000000 in
theorem fo_X7_isWord_L22 (i1 : Nat) {O : Type} {I : O → Prop} {c0 : (Int32 × (Nat → Int64) × (Nat → Int64) × (Nat → Int32))}  {G_post : Int32 → Md → (O → Prop) → Prop} {G_e51 : Md → Int32 → Int32 → (O → Prop) → Prop} (h_post : ∀ (v0 : Int32) (v1 : Md), (v1.1 0, v1.2.2.1 1, v1.2.2.1 2, v1.2.2.2 0) = c0 → xf (G_post v0 v1) I) (h_e51 : ∀ (v0 : Md) (v1 : Int32) (v2 : Int32), (v0.1 0, v0.2.2.1 1, v0.2.2.1 2, v0.2.2.2 0) = c0 → xf (G_e51 v0 v1 v2) I) : ∀ (n : Nat) (t0 : Md) (z2 : Int32) (z3 : Int32), (t0.1 0, t0.2.2.1 1, t0.2.2.1 2, t0.2.2.2 0) = c0 → xf (fun P : O → Prop => wp_X7_isWord_L22 i1 (fun v0 v1 => G_post v0 v1 P) (fun v0 v1 v2 => G_e51 v0 v1 v2 P) n t0 z2 z3) I := by
  intro n
  induction n with
  | zero => exact fun _ _ _ _ => xf_F
  | succ n22 ih =>
    intro t0 z2 z3 i_t0
    unfold wp_X7_isWord_L22
    exact (xf_b1 (F := fun k => wp_J0_length_8abf5 k i1) (xf_dt (dt_J0_length_8abf5 i1)) (fun r_4 _ => (xf_p (h_e51 t0 z2 z3 i_t0) (xf_b1 (F := fun k => wp_X7_byteAt k t0 (z2 + z3)) (xf_dt (dt_X7_byteAt t0 (z2 + z3))) (fun r_7 _ => (xf_b1 (F := fun k => wp_J0_charAt_5068e k i1 z3) (xf_dt (dt_J0_charAt_5068e i1 z3)) (fun r_9 _ => (xf_n (h_e51 t0 z2 z3 i_t0) (ih t0 z2 (z3 + 1) i_t0)))))))))
set_option maxHeartbeats 4000000 in
theorem fo_X7_isWord_L22b (i1 : Nat) {O : Type} {I : O → Prop} {c0 : (Int32 × (Nat → Int64) × (Nat → Int64) × (Nat → Int32))}  {G_post : Int32 → Md → (O → Prop) → Prop} {G_e51 : Md → Int32 → Int32 → (O → Prop) → Prop} (h_post : ∀ (v0 : Int32) (v1 : Md), (v1.1 0, v1.2.2.1 1, v1.2.2.1 2, v1.2.2.2 0) = c0 → xf (G_post v0 v1) I) (h_e51 : ∀ (v0 : Md) (v1 : Int32) (v2 : Int32), (v0.1 0, v0.2.2.1 1, v0.2.2.1 2, v0.2.2.2 0) = c0 → xf (G_e51 v0 v1 v2) I) : ∀ (n : Nat) (t0 : Md) (z2 : Int32) (z3 : Int32), (t0.1 0, t0.2.2.1 1, t0.2.2.1 2, t0.2.2.2 0) = c0 → xf (fun P : O → Prop => wp_X7_isWord_L22b i1 (fun v0 v1 => G_post v0 v1 P) (fun v0 v1 v2 => G_e51 v0 v1 v2 P) n t0 z2 z3) I := by
  intro n
  induction n with
  | zero => exact fun _ _ _ _ => xf_F
  | succ n22 ih =>
    intro t0 z2 z3 i_t0
    unfold wp_X7_isWord_L22b
    exact (xf_b1 (F := fun k => wp_J0_length_8abf5 k i1) (xf_dt (dt_J0_length_8abf5 i1)) (fun r_20 _ => (xf_p (h_e51 t0 z2 z3 i_t0) (xf_b1 (F := fun k => wp_X7_byteAt k t0 (z2 + z3)) (xf_dt (dt_X7_byteAt t0 (z2 + z3))) (fun r_23 _ => (xf_b1 (F := fun k => wp_J0_charAt_5068e k i1 z3) (xf_dt (dt_J0_charAt_5068e i1 z3)) (fun r_25 _ => (xf_n (h_e51 t0 z2 z3 i_t0) (ih t0 z2 (z3 + 1) i_t0)))))))))
set_option maxHeartbeats 4000000 in
theorem fp_X7_isWord (s0 : Md) (i1 : Nat) : xf (fun P : (Int32 × Md) → Prop => wp_X7_isWord (fun a0 a1 => P (a0, a1)) s0 i1) (fun o => (o.2.1 0, o.2.2.2.1 1, o.2.2.2.1 2, o.2.2.2.2 0) = (s0.1 0, s0.2.2.1 1, s0.2.2.1 2, s0.2.2.2 0)) := by
  unfold wp_X7_isWord
  exact (xf_b2 (F := fun k => wp_X7_nextByte k s0) (fp_X7_nextByte s0) (fun r_1 u_2 j_u_2 => have i_u_2 := j_u_2.trans rfl; (xf_n (xf_x (fun n22 => (fo_X7_isWord_L22 i1 (fun v0 v1 i_v1 => (xf_r i_v1)) (fun t0 z2 z3 i_t0 => (xf_b1 (F := fun k => wp_J0_length_8abf5 k i1) (xf_dt (dt_J0_length_8abf5 i1)) (fun r_12 _ => (xf_n (xf_r i_t0) (xf_b1 (F := fun k => wp_X7_byteAt k t0 (z2 + z3)) (xf_dt (dt_X7_byteAt t0 (z2 + z3))) (fun r_15 _ => (xf_b1 (F := fun k => wp_X7_in k (Int32.toInt64 r_15) (97 : Int64) (122 : Int64)) (xf_dt (dt_X7_in (Int32.toInt64 r_15) (97 : Int64) (122 : Int64))) (fun r_17 _ => (xf_n (xf_r i_t0) (xf_r i_t0)))))))))) n22 u_2 (u_2.1 6) 0 i_u_2))) (xf_x (fun n22 => (fo_X7_isWord_L22b i1 (fun v0 v1 i_v1 => (xf_r i_v1)) (fun t0 z2 z3 i_t0 => (xf_b1 (F := fun k => wp_J0_length_8abf5 k i1) (xf_dt (dt_J0_length_8abf5 i1)) (fun r_28 _ => (xf_n (xf_r i_t0) (xf_b1 (F := fun k => wp_X7_byteAt k t0 (z2 + z3)) (xf_dt (dt_X7_byteAt t0 (z2 + z3))) (fun r_31 _ => (xf_b1 (F := fun k => wp_X7_in k (Int32.toInt64 r_31) (97 : Int64) (122 : Int64)) (xf_dt (dt_X7_in (Int32.toInt64 r_31) (97 : Int64) (122 : Int64))) (fun r_33 _ => (xf_n (xf_r i_t0) (xf_r i_t0)))))))))) n22 u_2 (u_2.1 5) 0 i_u_2))))))
set_option maxHeartbeats 4000000 in
theorem fp_X7_takesWord (s0 : Md) (i1 : Nat) : xf (fun P : (Int32 × Md) → Prop => wp_X7_takesWord (fun a0 a1 => P (a0, a1)) s0 i1) (fun o => (o.2.1 0, o.2.2.2.1 1, o.2.2.2.1 2, o.2.2.2.2 0) = (s0.1 0, s0.2.2.1 1, s0.2.2.1 2, s0.2.2.2 0)) := by
  unfold wp_X7_takesWord
  exact (xf_b2 (F := fun k => wp_X7_isWord k s0 i1) (fp_X7_isWord s0 i1) (fun r_1 u_2 j_u_2 => have i_u_2 := j_u_2.trans rfl; (xf_p (xf_c (xf_r i_u_2)) (xf_b1 (F := fun k => wp_J0_length_8abf5 k i1) (xf_dt (dt_J0_length_8abf5 i1)) (fun r_5 _ => (xf_c (xf_r i_u_2)))))))
set_option maxHeartbeats 4000000 in
theorem fp_X7_mustWord (s0 : Md) (i1 : Nat) : xf (fun P : (Int32 × Md) → Prop => wp_X7_mustWord (fun a0 a1 => P (a0, a1)) s0 i1) (fun o => (o.2.1 0, o.2.2.2.1 1, o.2.2.2.1 2, o.2.2.2.2 0) = (s0.1 0, s0.2.2.1 1, s0.2.2.1 2, s0.2.2.2 0)) := by
  unfold wp_X7_mustWord
  exact (xf_b2 (F := fun k => wp_X7_takesWord k s0 i1) (fp_X7_takesWord s0 i1) (fun r_1 u_2 j_u_2 => have i_u_2 := j_u_2.trans rfl; (xf_n (xf_r i_u_2) (xf_b2 (F := fun k => wp_X7_fails k u_2 (1 : Int32) (u_2.1 6)) (fp_X7_fails u_2 (1 : Int32) (u_2.1 6)) (fun r_4 u_5 j_u_5 => have i_u_5 := j_u_5.trans i_u_2; (xf_p (xf_r i_u_5) (xf_r i_u_5)))))))
set_option maxHeartbeats 4000000 in
theorem fp_X7_takesByte (s0 : Md) (x1 : Int32) : xf (fun P : (Int32 × Md) → Prop => wp_X7_takesByte (fun a0 a1 => P (a0, a1)) s0 x1) (fun o => (o.2.1 0, o.2.2.2.1 1, o.2.2.2.1 2, o.2.2.2.2 0) = (s0.1 0, s0.2.2.1 1, s0.2.2.1 2, s0.2.2.2 0)) := by
  unfold wp_X7_takesByte
  exact (xf_b2 (F := fun k => wp_X7_nextByte k s0) (fp_X7_nextByte s0) (fun r_1 u_2 j_u_2 => have i_u_2 := j_u_2.trans rfl; (xf_n (xf_r i_u_2) (xf_r i_u_2))))
set_option maxHeartbeats 4000000 in
theorem fp_X7_mustByte (s0 : Md) (x1 : Int32) : xf (fun P : (Int32 × Md) → Prop => wp_X7_mustByte (fun a0 a1 => P (a0, a1)) s0 x1) (fun o => (o.2.1 0, o.2.2.2.1 1, o.2.2.2.1 2, o.2.2.2.2 0) = (s0.1 0, s0.2.2.1 1, s0.2.2.1 2, s0.2.2.2 0)) := by
  unfold wp_X7_mustByte
  exact (xf_b2 (F := fun k => wp_X7_takesByte k s0 x1) (fp_X7_takesByte s0 x1) (fun r_1 u_2 j_u_2 => have i_u_2 := j_u_2.trans rfl; (xf_n (xf_r i_u_2) (xf_b2 (F := fun k => wp_X7_fails k u_2 (1 : Int32) (u_2.1 6)) (fp_X7_fails u_2 (1 : Int32) (u_2.1 6)) (fun r_4 u_5 j_u_5 => have i_u_5 := j_u_5.trans i_u_2; (xf_p (xf_r i_u_5) (xf_r i_u_5)))))))
set_option maxHeartbeats 4000000 in
theorem fo_X7_readsNumber_L40  {O : Type} {I : O → Prop} {c0 : (Int32 × (Nat → Int64) × (Nat → Int64) × (Nat → Int32))}  {G_post : Int32 → Md → (O → Prop) → Prop} {G_e107 : Md → Int32 → Int32 → (O → Prop) → Prop} (h_post : ∀ (v0 : Int32) (v1 : Md), (v1.1 0, v1.2.2.1 1, v1.2.2.1 2, v1.2.2.2 0) = c0 → xf (G_post v0 v1) I) (h_e107 : ∀ (v0 : Md) (v1 : Int32) (v2 : Int32), (v0.1 0, v0.2.2.1 1, v0.2.2.1 2, v0.2.2.2 0) = c0 → xf (G_e107 v0 v1 v2) I) : ∀ (n : Nat) (t0 : Md) (z1 : Int32) (z2 : Int32), (t0.1 0, t0.2.2.1 1, t0.2.2.1 2, t0.2.2.2 0) = c0 → xf (fun P : O → Prop => wp_X7_readsNumber_L40 (fun v0 v1 => G_post v0 v1 P) (fun v0 v1 v2 => G_e107 v0 v1 v2 P) n t0 z1 z2) I := by
  intro n
  induction n with
  | zero => exact fun _ _ _ _ => xf_F
  | succ n40 ih =>
    intro t0 z1 z2 i_t0
    unfold wp_X7_readsNumber_L40
    exact (xf_b1 (F := fun k => wp_X7_byteAt k t0 (t0.1 6)) (xf_dt (dt_X7_byteAt t0 (t0.1 6))) (fun r_6 _ => (xf_b1 (F := fun k => wp_X7_in k (Int32.toInt64 r_6) (48 : Int64) (57 : Int64)) (xf_dt (dt_X7_in (Int32.toInt64 r_6) (48 : Int64) (57 : Int64))) (fun r_8 _ => (xf_p (h_e107 t0 z1 z2 i_t0) (xf_p (ih ((va_up t0.1 6 ((t0.1 6) + 1)), t0.2.1, t0.2.2.1, t0.2.2.2) z1 z2 i_t0) (xf_b1 (F := fun k => wp_X7_byteAt k t0 (t0.1 6)) (xf_dt (dt_X7_byteAt t0 (t0.1 6))) (fun r_12 _ => (ih ((va_up (va_up t0.1 6 ((t0.1 6) + 1)) 8 (((10 * (t0.1 8)) + r_12) - 48)), t0.2.1, t0.2.2.1, t0.2.2.2) z1 z2 i_t0)))))))))
set_option maxHeartbeats 4000000 in
theorem fp_X7_readsNumber (s0 : Md) (x1 : Int32) (x2 : Int32) : xf (fun P : (Int32 × Md) → Prop => wp_X7_readsNumber (fun a0 a1 => P (a0, a1)) s0 x1 x2) (fun o => (o.2.1 0, o.2.2.2.1 1, o.2.2.2.1 2, o.2.2.2.2 0) = (s0.1 0, s0.2.2.1 1, s0.2.2.1 2, s0.2.2.2 0)) := by
  unfold wp_X7_readsNumber
  exact (xf_b2 (F := fun k => wp_X7_nextByte k s0) (fp_X7_nextByte s0) (fun r_1 u_2 j_u_2 => have i_u_2 := j_u_2.trans rfl; (xf_b1 (F := fun k => wp_X7_in k (Int32.toInt64 r_1) (48 : Int64) (57 : Int64)) (xf_dt (dt_X7_in (Int32.toInt64 r_1) (48 : Int64) (57 : Int64))) (fun r_3 _ => (xf_n (xf_x (fun n40 => (fo_X7_readsNumber_L40  (fun v0 v1 i_v1 => (xf_r i_v1)) (fun t0 z1 z2 i_t0 => (xf_b1 (F := fun k => wp_X7_in k (Int32.toInt64 (t0.1 8)) (Int32.toInt64 z1) (Int32.toInt64 z2)) (xf_dt (dt_X7_in (Int32.toInt64 (t0.1 8)) (Int32.toInt64 z1) (Int32.toInt64 z2))) (fun r_14 _ => (xf_n (xf_r i_t0) (xf_b2 (F := fun k => wp_X7_fails k t0 (2 : Int32) (t0.1 9)) (fp_X7_fails t0 (2 : Int32) (t0.1 9)) (fun r_17 u_18 j_u_18 => have i_u_18 := j_u_18.trans i_t0; (xf_p (xf_r i_u_18) (xf_r i_u_18)))))))) n40 ((va_up (va_up u_2.1 8 0) 9 (u_2.1 6)), u_2.2.1, u_2.2.2.1, u_2.2.2.2) x1 x2 i_u_2))) (xf_b2 (F := fun k => wp_X7_fails k u_2 (1 : Int32) (u_2.1 6)) (fp_X7_fails u_2 (1 : Int32) (u_2.1 6)) (fun r_20 u_21 j_u_21 => have i_u_21 := j_u_21.trans i_u_2; (xf_c (xf_r i_u_21)))))))))
set_option maxHeartbeats 4000000 in
theorem fo_X7_readsQuoted_L24  {O : Type} {I : O → Prop} {c0 : (Int32 × (Nat → Int64) × (Nat → Int64) × (Nat → Int32))}  {G_post : Int32 → Md → (O → Prop) → Prop} {G_e102 : Md → Int32 → Int32 → (O → Prop) → Prop} (h_post : ∀ (v0 : Int32) (v1 : Md), (v1.1 0, v1.2.2.1 1, v1.2.2.1 2, v1.2.2.2 0) = c0 → xf (G_post v0 v1) I) (h_e102 : ∀ (v0 : Md) (v1 : Int32) (v2 : Int32), (v0.1 0, v0.2.2.1 1, v0.2.2.1 2, v0.2.2.2 0) = c0 → xf (G_e102 v0 v1 v2) I) : ∀ (n : Nat) (t0 : Md) (z1 : Int32) (z2 : Int32), (t0.1 0, t0.2.2.1 1, t0.2.2.1 2, t0.2.2.2 0) = c0 → xf (fun P : O → Prop => wp_X7_readsQuoted_L24 (fun v0 v1 => G_post v0 v1 P) (fun v0 v1 v2 => G_e102 v0 v1 v2 P) n t0 z1 z2) I := by
  intro n
  induction n with
  | zero => exact fun _ _ _ _ => xf_F
  | succ n24 ih =>
    intro t0 z1 z2 i_t0
    unfold wp_X7_readsQuoted_L24
    exact (xf_b1 (F := fun k => wp_X7_byteAt k t0 (t0.1 6)) (xf_dt (dt_X7_byteAt t0 (t0.1 6))) (fun r_4 _ => (xf_p (h_e102 t0 z1 z2 i_t0) (xf_b1 (F := fun k => wp_X7_byteAt k t0 (t0.1 6)) (xf_dt (dt_X7_byteAt t0 (t0.1 6))) (fun r_7 _ => (xf_b1 (F := fun k => wp_X7_isSign k r_7) (xf_dt (dt_X7_isSign r_7)) (fun r_9 _ => (xf_n (xf_n (ih ((va_up (va_up t0.1 6 ((t0.1 6) + 1)) 11 ((t0.1 11) + 1)), t0.2.1, t0.2.2.1, t0.2.2.2) z1 z2 i_t0) (xf_b2 (F := fun k => wp_X7_fails k t0 (2 : Int32) (t0.1 6)) (fp_X7_fails t0 (2 : Int32) (t0.1 6)) (fun r_13 u_14 j_u_14 => have i_u_14 := j_u_14.trans i_t0; (xf_c (h_post r_13 u_14 i_u_14))))) (xf_b2 (F := fun k => wp_X7_fails k t0 (1 : Int32) (t0.1 6)) (fp_X7_fails t0 (1 : Int32) (t0.1 6)) (fun r_16 u_17 j_u_17 => have i_u_17 := j_u_17.trans i_t0; (xf_c (h_post r_16 u_17 i_u_17))))))))))))
set_option maxHeartbeats 4000000 in
theorem fp_X7_readsQuoted (s0 : Md) (x1 : Int32) (x2 : Int32) : xf (fun P : (Int32 × Md) → Prop => wp_X7_readsQuoted (fun a0 a1 => P (a0, a1)) s0 x1 x2) (fun o => (o.2.1 0, o.2.2.2.1 1, o.2.2.2.1 2, o.2.2.2.2 0) = (s0.1 0, s0.2.2.1 1, s0.2.2.1 2, s0.2.2.2 0)) := by
  unfold wp_X7_readsQuoted
  exact (xf_b2 (F := fun k => wp_X7_mustByte k s0 (39 : Int32)) (fp_X7_mustByte s0 (39 : Int32)) (fun r_1 u_2 j_u_2 => have i_u_2 := j_u_2.trans rfl; (xf_n (xf_x (fun n24 => (fo_X7_readsQuoted_L24  (fun v0 v1 i_v1 => (xf_r i_v1)) (fun t0 z1 z2 i_t0 => (xf_p (xf_r i_t0) (xf_b2 (F := fun k => wp_X7_fails k t0 (2 : Int32) (t0.1 6)) (fp_X7_fails t0 (2 : Int32) (t0.1 6)) (fun r_20 u_21 j_u_21 => have i_u_21 := j_u_21.trans i_t0; (xf_c (xf_r i_u_21)))))) n24 ((va_up (va_up u_2.1 10 (u_2.1 6)) 11 0), u_2.2.1, u_2.2.2.1, u_2.2.2.2) x1 x2 i_u_2))) (xf_r i_u_2))))
set_option maxHeartbeats 4000000 in
theorem fo_X7_readsDrum_L91  {O : Type} {I : O → Prop} {c0 : (Int32 × (Nat → Int64) × (Nat → Int64) × (Nat → Int32))}  {G_post : Int32 → Md → (O → Prop) → Prop} {G_e127 : Md → Int32 → Int32 → Int32 → (O → Prop) → Prop} (h_post : ∀ (v0 : Int32) (v1 : Md), (v1.1 0, v1.2.2.1 1, v1.2.2.1 2, v1.2.2.2 0) = c0 → xf (G_post v0 v1) I) (h_e127 : ∀ (v0 : Md) (v1 : Int32) (v2 : Int32) (v3 : Int32), (v0.1 0, v0.2.2.1 1, v0.2.2.1 2, v0.2.2.2 0) = c0 → xf (G_e127 v0 v1 v2 v3) I) : ∀ (n : Nat) (t0 : Md) (z1 : Int32) (z2 : Int32) (z3 : Int32), (t0.1 0, t0.2.2.1 1, t0.2.2.1 2, t0.2.2.2 0) = c0 → xf (fun P : O → Prop => wp_X7_readsDrum_L91 (fun v0 v1 => G_post v0 v1 P) (fun v0 v1 v2 v3 => G_e127 v0 v1 v2 v3 P) n t0 z1 z2 z3) I := by
  intro n
  induction n with
  | zero => exact fun _ _ _ _ _ => xf_F
  | succ n91 ih =>
    intro t0 z1 z2 z3 i_t0
    unfold wp_X7_readsDrum_L91
    exact (xf_p (h_e127 t0 z1 z2 z3 i_t0) (xf_c (xf_c (ih (t0.1, t0.2.1, (va_up t0.2.2.1 0 (vp_updL (t0.2.2.1 0) (Int32.toNatClampNeg ((z2 + 2) + z3)) (Int32.toInt64 ((t0.2.2.2 2) (Int32.toNatClampNeg ((t0.1 10) + z3)))))), t0.2.2.2) z1 z2 (z3 + 1) i_t0))))
set_option maxHeartbeats 4000000 in
theorem fp_X7_readsDrum (s0 : Md) : xf (fun P : (Int32 × Md) → Prop => wp_X7_readsDrum (fun a0 a1 => P (a0, a1)) s0) (fun o => (o.2.1 0, o.2.2.2.1 1, o.2.2.2.1 2, o.2.2.2.2 0) = (s0.1 0, s0.2.2.1 1, s0.2.2.1 2, s0.2.2.2 0)) := by
  unfold wp_X7_readsDrum
  exact (xf_b1 (F := fun k => wp_X7_drums k s0) (xf_dt (dt_X7_drums s0)) (fun r_1 _ => (xf_n (xf_b2 (F := fun k => wp_X7_readsNumber k ((va_up s0.1 6 ((s0.1 6) + 4)), s0.2.1, s0.2.2.1, s0.2.2.2) (1 : Int32) (9 : Int32)) (fp_X7_readsNumber ((va_up s0.1 6 ((s0.1 6) + 4)), s0.2.1, s0.2.2.1, s0.2.2.2) (1 : Int32) (9 : Int32)) (fun r_4 u_5 j_u_5 => have i_u_5 := j_u_5.trans rfl; (xf_n (xf_b2 (F := fun k => wp_X7_readsQuoted k u_5 (2 : Int32) (40 : Int32)) (fp_X7_readsQuoted u_5 (2 : Int32) (40 : Int32)) (fun r_7 u_8 j_u_8 => have i_u_8 := j_u_8.trans i_u_5; (xf_n (xf_b1 (F := fun k => wp_X7_drums k u_8) (xf_dt (dt_X7_drums u_8)) (fun r_10 _ => (xf_c (xf_c (xf_x (fun n91 => (fo_X7_readsDrum_L91  (fun v0 v1 i_v1 => (xf_r i_v1)) (fun t0 z1 z2 z3 i_t0 => (xf_r i_t0)) n91 (u_8.1, u_8.2.1, (va_up u_8.2.2.1 0 (vp_updL (vp_updL (u_8.2.2.1 0) (Int32.toNatClampNeg (8 + (42 * r_10))) (Int32.toInt64 (u_5.1 8))) (Int32.toNatClampNeg ((8 + (42 * r_10)) + 1)) (Int32.toInt64 (u_8.1 11)))), u_8.2.2.2) (u_5.1 8) (8 + (42 * r_10)) 0 i_u_8))))))) (xf_r i_u_8)))) (xf_r i_u_5)))) (xf_b2 (F := fun k => wp_X7_fails k s0 (3 : Int32) (s0.1 6)) (fp_X7_fails s0 (3 : Int32) (s0.1 6)) (fun r_17 u_18 j_u_18 => have i_u_18 := j_u_18.trans rfl; (xf_c (xf_r i_u_18)))))))
set_option maxHeartbeats 4000000 in
theorem fo_X7_readsCells_L78  {O : Type} {I : O → Prop} {c0 : (Int32 × (Nat → Int64) × (Nat → Int64) × (Nat → Int32))}  {G_post : Int32 → Md → (O → Prop) → Prop} {G_e99 : Md → Int32 → Int32 → Int32 → Int32 → (O → Prop) → Prop} (h_post : ∀ (v0 : Int32) (v1 : Md), (v1.1 0, v1.2.2.1 1, v1.2.2.1 2, v1.2.2.2 0) = c0 → xf (G_post v0 v1) I) (h_e99 : ∀ (v0 : Md) (v1 : Int32) (v2 : Int32) (v3 : Int32) (v4 : Int32), (v0.1 0, v0.2.2.1 1, v0.2.2.1 2, v0.2.2.2 0) = c0 → xf (G_e99 v0 v1 v2 v3 v4) I) : ∀ (n : Nat) (t0 : Md) (z1 : Int32) (z2 : Int32) (z3 : Int32) (z4 : Int32), (t0.1 0, t0.2.2.1 1, t0.2.2.1 2, t0.2.2.2 0) = c0 → xf (fun P : O → Prop => wp_X7_readsCells_L78 (fun v0 v1 => G_post v0 v1 P) (fun v0 v1 v2 v3 v4 => G_e99 v0 v1 v2 v3 v4 P) n t0 z1 z2 z3 z4) I := by
  intro n
  induction n with
  | zero => exact fun _ _ _ _ _ _ => xf_F
  | succ n78 ih =>
    intro t0 z1 z2 z3 z4 i_t0
    unfold wp_X7_readsCells_L78
    exact (xf_p (h_e99 t0 z1 z2 z3 z4 i_t0) (xf_b1 (F := fun k => wp_X7_sets k t0 z3 z4 (0 : Int64)) (fp_X7_sets t0 z3 z4 (0 : Int64)) (fun u_19 j_u_19 => have i_u_19 := j_u_19.trans i_t0; (ih u_19 z1 z2 z3 (z4 + 1) i_u_19))))
set_option maxHeartbeats 4000000 in
theorem fo_X7_readsCells_L70  {O : Type} {I : O → Prop} {c0 : (Int32 × (Nat → Int64) × (Nat → Int64) × (Nat → Int32))}  {G_post : Int32 → Md → (O → Prop) → Prop} {G_e116 : Md → Int32 → Int32 → Int32 → (O → Prop) → Prop} (h_post : ∀ (v0 : Int32) (v1 : Md), (v1.1 0, v1.2.2.1 1, v1.2.2.1 2, v1.2.2.2 0) = c0 → xf (G_post v0 v1) I) (h_e116 : ∀ (v0 : Md) (v1 : Int32) (v2 : Int32) (v3 : Int32), (v0.1 0, v0.2.2.1 1, v0.2.2.1 2, v0.2.2.2 0) = c0 → xf (G_e116 v0 v1 v2 v3) I) : ∀ (n : Nat) (t0 : Md) (z1 : Int32) (z2 : Int32) (z3 : Int32), (t0.1 0, t0.2.2.1 1, t0.2.2.1 2, t0.2.2.2 0) = c0 → xf (fun P : O → Prop => wp_X7_readsCells_L70 (fun v0 v1 => G_post v0 v1 P) (fun v0 v1 v2 v3 => G_e116 v0 v1 v2 v3 P) n t0 z1 z2 z3) I := by
  intro n
  induction n with
  | zero => exact fun _ _ _ _ _ => xf_F
  | succ n70 ih =>
    intro t0 z1 z2 z3 i_t0
    unfold wp_X7_readsCells_L70
    exact (xf_p (h_e116 t0 z1 z2 z3 i_t0) (xf_x (fun n78 => (fo_X7_readsCells_L78  (fun v0 v1 i_v1 => (h_post v0 v1 i_v1)) (fun t0 z1 z2 z3 z4 i_t0 => (xf_b1 (F := fun k => wp_X7_sets k t0 z3 (0 : Int32) (Int32.toInt64 (t0.1 8))) (fp_X7_sets t0 z3 (0 : Int32) (Int32.toInt64 (t0.1 8))) (fun u_21 j_u_21 => have i_u_21 := j_u_21.trans i_t0; (ih u_21 z1 z2 (z3 + 1) i_u_21)))) n78 t0 z1 z2 z3 0 i_t0))))
set_option maxHeartbeats 4000000 in
theorem fp_X7_readsCells (s0 : Md) : xf (fun P : (Int32 × Md) → Prop => wp_X7_readsCells (fun a0 a1 => P (a0, a1)) s0) (fun o => (o.2.1 0, o.2.2.2.1 1, o.2.2.2.1 2, o.2.2.2.2 0) = (s0.1 0, s0.2.2.1 1, s0.2.2.1 2, s0.2.2.2 0)) := by
  unfold wp_X7_readsCells
  exact (xf_b1 (F := fun k => wp_X7_cells k ((va_up s0.1 6 ((s0.1 6) + 5)), s0.2.1, s0.2.2.1, s0.2.2.2)) (xf_dt (dt_X7_cells ((va_up s0.1 6 ((s0.1 6) + 5)), s0.2.1, s0.2.2.1, s0.2.2.2))) (fun r_1 _ => (xf_b2 (F := fun k => wp_X7_readsNumber k ((va_up s0.1 6 ((s0.1 6) + 5)), s0.2.1, s0.2.2.1, s0.2.2.2) (0 : Int32) (r_1 - 1)) (fp_X7_readsNumber ((va_up s0.1 6 ((s0.1 6) + 5)), s0.2.1, s0.2.2.1, s0.2.2.2) (0 : Int32) (r_1 - 1)) (fun r_3 u_4 j_u_4 => have i_u_4 := j_u_4.trans rfl; (xf_n (xf_b1 (F := fun k => wp_X7_cells k u_4) (xf_dt (dt_X7_cells u_4)) (fun r_6 _ => (xf_b2 (F := fun k => wp_X7_readsNumber k u_4 (u_4.1 8) (r_6 - 1)) (fp_X7_readsNumber u_4 (u_4.1 8) (r_6 - 1)) (fun r_8 u_9 j_u_9 => have i_u_9 := j_u_9.trans i_u_4; (xf_n (xf_b1 (F := fun k => wp_X7_drums k u_9) (xf_dt (dt_X7_drums u_9)) (fun r_11 _ => (xf_b2 (F := fun k => wp_X7_readsNumber k u_9 (0 : Int32) (r_11 - 1)) (fp_X7_readsNumber u_9 (0 : Int32) (r_11 - 1)) (fun r_13 u_14 j_u_14 => have i_u_14 := j_u_14.trans i_u_9; (xf_n (xf_x (fun n70 => (fo_X7_readsCells_L70  (fun v0 v1 i_v1 => (xf_r i_v1)) (fun t0 z1 z2 z3 i_t0 => (xf_r i_t0)) n70 u_14 (u_4.1 8) (u_9.1 8) (u_4.1 8) i_u_14))) (xf_r i_u_14)))))) (xf_r i_u_9)))))) (xf_r i_u_4))))))
set_option maxHeartbeats 4000000 in
theorem fp_X7_readsWorn (s0 : Md) : xf (fun P : (Int32 × Md) → Prop => wp_X7_readsWorn (fun a0 a1 => P (a0, a1)) s0) (fun o => (o.2.1 0, o.2.2.2.1 1, o.2.2.2.1 2, o.2.2.2.2 0) = (s0.1 0, s0.2.2.1 1, s0.2.2.1 2, s0.2.2.2 0)) := by
  unfold wp_X7_readsWorn
  exact (xf_b1 (F := fun k => wp_X7_cells k ((va_up s0.1 6 ((s0.1 6) + 4)), s0.2.1, s0.2.2.1, s0.2.2.2)) (xf_dt (dt_X7_cells ((va_up s0.1 6 ((s0.1 6) + 4)), s0.2.1, s0.2.2.1, s0.2.2.2))) (fun r_1 _ => (xf_b2 (F := fun k => wp_X7_readsNumber k ((va_up s0.1 6 ((s0.1 6) + 4)), s0.2.1, s0.2.2.1, s0.2.2.2) (0 : Int32) (r_1 - 1)) (fp_X7_readsNumber ((va_up s0.1 6 ((s0.1 6) + 4)), s0.2.1, s0.2.2.1, s0.2.2.2) (0 : Int32) (r_1 - 1)) (fun r_3 u_4 j_u_4 => have i_u_4 := j_u_4.trans rfl; (xf_n (xf_b1 (F := fun k => wp_X7_flaps k u_4 (u_4.1 8)) (xf_dt (dt_X7_flaps u_4 (u_4.1 8))) (fun r_6 _ => (xf_b2 (F := fun k => wp_X7_readsNumber k u_4 (1 : Int32) (r_6 - 1)) (fp_X7_readsNumber u_4 (1 : Int32) (r_6 - 1)) (fun r_8 u_9 j_u_9 => have i_u_9 := j_u_9.trans i_u_4; (xf_n (xf_b1 (F := fun k => wp_X7_wornOf k u_9 (u_4.1 8)) (xf_dt (dt_X7_wornOf u_9 (u_4.1 8))) (fun r_11 _ => (xf_b1 (F := fun k => wp_X7_isIn k r_11 (u_9.1 8)) (xf_dt (dt_X7_isIn r_11 (u_9.1 8))) (fun r_13 _ => (xf_p (xf_b1 (F := fun k => wp_X7_wears k u_9 (u_4.1 8) (u_9.1 8)) (fp_X7_wears u_9 (u_4.1 8) (u_9.1 8)) (fun u_17 j_u_17 => have i_u_17 := j_u_17.trans i_u_9; (xf_r i_u_17))) (xf_b2 (F := fun k => wp_X7_fails k u_9 (2 : Int32) (u_9.1 9)) (fp_X7_fails u_9 (2 : Int32) (u_9.1 9)) (fun r_18 u_19 j_u_19 => have i_u_19 := j_u_19.trans i_u_9; (xf_c (xf_r i_u_19))))))))) (xf_r i_u_9)))))) (xf_r i_u_4))))))
set_option maxHeartbeats 4000000 in
theorem fo_X7_readsRow_L62  {O : Type} {I : O → Prop} {c0 : (Int32 × (Nat → Int64) × (Nat → Int64) × (Nat → Int32))}  {G_post : Int32 → Md → (O → Prop) → Prop} {G_e116 : Md → Int32 → Int32 → Int32 → (O → Prop) → Prop} (h_post : ∀ (v0 : Int32) (v1 : Md), (v1.1 0, v1.2.2.1 1, v1.2.2.1 2, v1.2.2.2 0) = c0 → xf (G_post v0 v1) I) (h_e116 : ∀ (v0 : Md) (v1 : Int32) (v2 : Int32) (v3 : Int32), (v0.1 0, v0.2.2.1 1, v0.2.2.1 2, v0.2.2.2 0) = c0 → xf (G_e116 v0 v1 v2 v3) I) : ∀ (n : Nat) (t0 : Md) (z1 : Int32) (z2 : Int32) (z3 : Int32), (t0.1 0, t0.2.2.1 1, t0.2.2.1 2, t0.2.2.2 0) = c0 → xf (fun P : O → Prop => wp_X7_readsRow_L62 (fun v0 v1 => G_post v0 v1 P) (fun v0 v1 v2 v3 => G_e116 v0 v1 v2 v3 P) n t0 z1 z2 z3) I := by
  intro n
  induction n with
  | zero => exact fun _ _ _ _ _ => xf_F
  | succ n62 ih =>
    intro t0 z1 z2 z3 i_t0
    unfold wp_X7_readsRow_L62
    exact (xf_b1 (F := fun k => wp_X7_wide k t0) (xf_dt (dt_X7_wide t0)) (fun r_13 _ => (xf_p (h_e116 t0 z1 z2 z3 i_t0) (xf_b1 (F := fun k => wp_X7_wide k t0) (xf_dt (dt_X7_wide t0)) (fun r_16 _ => (xf_b1 (F := fun k => wp_X7_of k t0 ((r_16 * z1) + z3) (3 : Int32)) (xf_dt (dt_X7_of t0 ((r_16 * z1) + z3) (3 : Int32))) (fun r_18 _ => (xf_b1 (F := fun k => wp_X7_sets k t0 ((r_16 * z1) + z3) (1 : Int32) (Int32.toInt64 r_18)) (fp_X7_sets t0 ((r_16 * z1) + z3) (1 : Int32) (Int32.toInt64 r_18)) (fun u_21 j_u_21 => have i_u_21 := j_u_21.trans i_t0; (xf_b1 (F := fun k => wp_X7_of k u_21 ((r_16 * z1) + z3) (3 : Int32)) (xf_dt (dt_X7_of u_21 ((r_16 * z1) + z3) (3 : Int32))) (fun r_22 _ => (xf_b1 (F := fun k => wp_X7_sets k u_21 ((r_16 * z1) + z3) (2 : Int32) (Int32.toInt64 r_22)) (fp_X7_sets u_21 ((r_16 * z1) + z3) (2 : Int32) (Int32.toInt64 r_22)) (fun u_25 j_u_25 => have i_u_25 := j_u_25.trans i_u_21; (ih u_25 z1 z2 (z3 + 1) i_u_25))))))))))))))
set_option maxHeartbeats 4000000 in
theorem fp_X7_readsRow (s0 : Md) : xf (fun P : (Int32 × Md) → Prop => wp_X7_readsRow (fun a0 a1 => P (a0, a1)) s0) (fun o => (o.2.1 0, o.2.2.2.1 1, o.2.2.2.1 2, o.2.2.2.2 0) = (s0.1 0, s0.2.2.1 1, s0.2.2.1 2, s0.2.2.2 0)) := by
  unfold wp_X7_readsRow
  exact (xf_b1 (F := fun k => wp_X7_rows k ((va_up s0.1 6 ((s0.1 6) + 3)), s0.2.1, s0.2.2.1, s0.2.2.2)) (xf_dt (dt_X7_rows ((va_up s0.1 6 ((s0.1 6) + 3)), s0.2.1, s0.2.2.1, s0.2.2.2))) (fun r_1 _ => (xf_b2 (F := fun k => wp_X7_readsNumber k ((va_up s0.1 6 ((s0.1 6) + 3)), s0.2.1, s0.2.2.1, s0.2.2.2) (0 : Int32) (r_1 - 1)) (fp_X7_readsNumber ((va_up s0.1 6 ((s0.1 6) + 3)), s0.2.1, s0.2.2.1, s0.2.2.2) (0 : Int32) (r_1 - 1)) (fun r_3 u_4 j_u_4 => have i_u_4 := j_u_4.trans rfl; (xf_n (xf_b1 (F := fun k => wp_X7_wide k u_4) (xf_dt (dt_X7_wide u_4)) (fun r_6 _ => (xf_b2 (F := fun k => wp_X7_readsQuoted k u_4 (0 : Int32) r_6) (fp_X7_readsQuoted u_4 (0 : Int32) r_6) (fun r_8 u_9 j_u_9 => have i_u_9 := j_u_9.trans i_u_4; (xf_n (xf_b2 (F := fun k => wp_X7_wantsSigns k u_9 (u_4.1 8) (u_9.1 10) (u_9.1 11) (0 : Int32)) (fp_X7_wantsSigns u_9 (u_4.1 8) (u_9.1 10) (u_9.1 11) (0 : Int32)) (fun r_11 u_12 j_u_12 => have i_u_12 := j_u_12.trans i_u_9; (xf_x (fun n62 => (fo_X7_readsRow_L62  (fun v0 v1 i_v1 => (xf_r i_v1)) (fun t0 z1 z2 z3 i_t0 => (xf_r i_t0)) n62 u_12 (u_4.1 8) r_11 0 i_u_12))))) (xf_r i_u_9)))))) (xf_r i_u_4))))))
set_option maxHeartbeats 4000000 in
theorem fp_X7_readsLose (s0 : Md) : xf (fun P : (Int32 × Md) → Prop => wp_X7_readsLose (fun a0 a1 => P (a0, a1)) s0) (fun o => (o.2.1 0, o.2.2.2.1 1, o.2.2.2.1 2, o.2.2.2.2 0) = (s0.1 0, s0.2.2.1 1, s0.2.2.1 2, s0.2.2.2 0)) := by
  unfold wp_X7_readsLose
  exact (xf_b1 (F := fun k => wp_X7_cells k ((va_up s0.1 6 ((s0.1 6) + 4)), s0.2.1, s0.2.2.1, s0.2.2.2)) (xf_dt (dt_X7_cells ((va_up s0.1 6 ((s0.1 6) + 4)), s0.2.1, s0.2.2.1, s0.2.2.2))) (fun r_1 _ => (xf_b2 (F := fun k => wp_X7_readsNumber k ((va_up s0.1 6 ((s0.1 6) + 4)), s0.2.1, s0.2.2.1, s0.2.2.2) (0 : Int32) (r_1 - 1)) (fp_X7_readsNumber ((va_up s0.1 6 ((s0.1 6) + 4)), s0.2.1, s0.2.2.1, s0.2.2.2) (0 : Int32) (r_1 - 1)) (fun r_3 u_4 j_u_4 => have i_u_4 := j_u_4.trans rfl; (xf_n (xf_b2 (F := fun k => wp_X7_readsNumber k ((va_up u_4.1 12 (u_4.1 8)), u_4.2.1, u_4.2.2.1, u_4.2.2.2) (0 : Int32) (9 : Int32)) (fp_X7_readsNumber ((va_up u_4.1 12 (u_4.1 8)), u_4.2.1, u_4.2.2.1, u_4.2.2.2) (0 : Int32) (9 : Int32)) (fun r_6 u_7 j_u_7 => have i_u_7 := j_u_7.trans i_u_4; (xf_c (xf_r i_u_7)))) (xf_r i_u_4))))))
set_option maxHeartbeats 4000000 in
theorem fp_X7_readsPart (s0 : Md) : xf (fun P : (Int32 × Md) → Prop => wp_X7_readsPart (fun a0 a1 => P (a0, a1)) s0) (fun o => (o.2.1 0, o.2.2.2.1 1, o.2.2.2.1 2, o.2.2.2.2 0) = (s0.1 0, s0.2.2.1 1, s0.2.2.1 2, s0.2.2.2 0)) := by
  unfold wp_X7_readsPart
  exact (xf_b2 (F := fun k => wp_X7_isWord k s0 2) (fp_X7_isWord s0 2) (fun r_1 u_2 j_u_2 => have i_u_2 := j_u_2.trans rfl; (xf_p (xf_b2 (F := fun k => wp_X7_isWord k u_2 3) (fp_X7_isWord u_2 3) (fun r_4 u_5 j_u_5 => have i_u_5 := j_u_5.trans i_u_2; (xf_n (xf_b1 (F := fun k => wp_X7_drums k u_5) (xf_dt (dt_X7_drums u_5)) (fun r_7 _ => (xf_n (xf_b2 (F := fun k => wp_X7_isWord k u_5 3) (fp_X7_isWord u_5 3) (fun r_10 u_11 j_u_11 => have i_u_11 := j_u_11.trans i_u_5; (xf_p (xf_b2 (F := fun k => wp_X7_isWord k u_11 4) (fp_X7_isWord u_11 4) (fun r_13 u_14 j_u_14 => have i_u_14 := j_u_14.trans i_u_11; (xf_p (xf_b2 (F := fun k => wp_X7_isWord k u_14 5) (fp_X7_isWord u_14 5) (fun r_16 u_17 j_u_17 => have i_u_17 := j_u_17.trans i_u_14; (xf_p (xf_b2 (F := fun k => wp_X7_readsLose k u_17) (fp_X7_readsLose u_17) (fun r_19 u_20 j_u_20 => have i_u_20 := j_u_20.trans i_u_17; (xf_n (xf_b1 (F := fun k => wp_X7_sets k u_20 (u_20.1 12) (4 : Int32) (Int32.toInt64 (u_20.1 8))) (fp_X7_sets u_20 (u_20.1 12) (4 : Int32) (Int32.toInt64 (u_20.1 8))) (fun u_23 j_u_23 => have i_u_23 := j_u_23.trans i_u_20; (xf_r i_u_23))) (xf_r i_u_20)))) (xf_b2 (F := fun k => wp_X7_readsRow k u_17) (fp_X7_readsRow u_17) (fun r_24 u_25 j_u_25 => have i_u_25 := j_u_25.trans i_u_17; (xf_c (xf_r i_u_25))))))) (xf_b2 (F := fun k => wp_X7_readsWorn k u_14) (fp_X7_readsWorn u_14) (fun r_27 u_28 j_u_28 => have i_u_28 := j_u_28.trans i_u_14; (xf_c (xf_r i_u_28))))))) (xf_b2 (F := fun k => wp_X7_readsCells k u_11) (fp_X7_readsCells u_11) (fun r_30 u_31 j_u_31 => have i_u_31 := j_u_31.trans i_u_11; (xf_c (xf_r i_u_31))))))) (xf_b2 (F := fun k => wp_X7_fails k u_5 (3 : Int32) (u_5.1 6)) (fp_X7_fails u_5 (3 : Int32) (u_5.1 6)) (fun r_33 u_34 j_u_34 => have i_u_34 := j_u_34.trans i_u_5; (xf_c (xf_r i_u_34))))))) (xf_b2 (F := fun k => wp_X7_isWord k u_5 4) (fp_X7_isWord u_5 4) (fun r_36 u_37 j_u_37 => have i_u_37 := j_u_37.trans i_u_5; (xf_n (xf_b1 (F := fun k => wp_X7_drums k u_37) (xf_dt (dt_X7_drums u_37)) (fun r_39 _ => (xf_n (xf_b2 (F := fun k => wp_X7_isWord k u_37 3) (fp_X7_isWord u_37 3) (fun r_42 u_43 j_u_43 => have i_u_43 := j_u_43.trans i_u_37; (xf_p (xf_b2 (F := fun k => wp_X7_isWord k u_43 4) (fp_X7_isWord u_43 4) (fun r_45 u_46 j_u_46 => have i_u_46 := j_u_46.trans i_u_43; (xf_p (xf_b2 (F := fun k => wp_X7_isWord k u_46 5) (fp_X7_isWord u_46 5) (fun r_48 u_49 j_u_49 => have i_u_49 := j_u_49.trans i_u_46; (xf_p (xf_b2 (F := fun k => wp_X7_readsLose k u_49) (fp_X7_readsLose u_49) (fun r_51 u_52 j_u_52 => have i_u_52 := j_u_52.trans i_u_49; (xf_n (xf_b1 (F := fun k => wp_X7_sets k u_52 (u_52.1 12) (4 : Int32) (Int32.toInt64 (u_52.1 8))) (fp_X7_sets u_52 (u_52.1 12) (4 : Int32) (Int32.toInt64 (u_52.1 8))) (fun u_55 j_u_55 => have i_u_55 := j_u_55.trans i_u_52; (xf_r i_u_55))) (xf_r i_u_52)))) (xf_b2 (F := fun k => wp_X7_readsRow k u_49) (fp_X7_readsRow u_49) (fun r_56 u_57 j_u_57 => have i_u_57 := j_u_57.trans i_u_49; (xf_c (xf_r i_u_57))))))) (xf_b2 (F := fun k => wp_X7_readsWorn k u_46) (fp_X7_readsWorn u_46) (fun r_59 u_60 j_u_60 => have i_u_60 := j_u_60.trans i_u_46; (xf_c (xf_r i_u_60))))))) (xf_b2 (F := fun k => wp_X7_readsCells k u_43) (fp_X7_readsCells u_43) (fun r_62 u_63 j_u_63 => have i_u_63 := j_u_63.trans i_u_43; (xf_c (xf_r i_u_63))))))) (xf_b2 (F := fun k => wp_X7_fails k u_37 (3 : Int32) (u_37.1 6)) (fp_X7_fails u_37 (3 : Int32) (u_37.1 6)) (fun r_65 u_66 j_u_66 => have i_u_66 := j_u_66.trans i_u_37; (xf_c (xf_r i_u_66))))))) (xf_b2 (F := fun k => wp_X7_isWord k u_37 5) (fp_X7_isWord u_37 5) (fun r_68 u_69 j_u_69 => have i_u_69 := j_u_69.trans i_u_37; (xf_n (xf_b1 (F := fun k => wp_X7_drums k u_69) (xf_dt (dt_X7_drums u_69)) (fun r_71 _ => (xf_n (xf_b2 (F := fun k => wp_X7_isWord k u_69 3) (fp_X7_isWord u_69 3) (fun r_74 u_75 j_u_75 => have i_u_75 := j_u_75.trans i_u_69; (xf_p (xf_b2 (F := fun k => wp_X7_isWord k u_75 4) (fp_X7_isWord u_75 4) (fun r_77 u_78 j_u_78 => have i_u_78 := j_u_78.trans i_u_75; (xf_p (xf_b2 (F := fun k => wp_X7_isWord k u_78 5) (fp_X7_isWord u_78 5) (fun r_80 u_81 j_u_81 => have i_u_81 := j_u_81.trans i_u_78; (xf_p (xf_b2 (F := fun k => wp_X7_readsLose k u_81) (fp_X7_readsLose u_81) (fun r_83 u_84 j_u_84 => have i_u_84 := j_u_84.trans i_u_81; (xf_n (xf_b1 (F := fun k => wp_X7_sets k u_84 (u_84.1 12) (4 : Int32) (Int32.toInt64 (u_84.1 8))) (fp_X7_sets u_84 (u_84.1 12) (4 : Int32) (Int32.toInt64 (u_84.1 8))) (fun u_87 j_u_87 => have i_u_87 := j_u_87.trans i_u_84; (xf_r i_u_87))) (xf_r i_u_84)))) (xf_b2 (F := fun k => wp_X7_readsRow k u_81) (fp_X7_readsRow u_81) (fun r_88 u_89 j_u_89 => have i_u_89 := j_u_89.trans i_u_81; (xf_c (xf_r i_u_89))))))) (xf_b2 (F := fun k => wp_X7_readsWorn k u_78) (fp_X7_readsWorn u_78) (fun r_91 u_92 j_u_92 => have i_u_92 := j_u_92.trans i_u_78; (xf_c (xf_r i_u_92))))))) (xf_b2 (F := fun k => wp_X7_readsCells k u_75) (fp_X7_readsCells u_75) (fun r_94 u_95 j_u_95 => have i_u_95 := j_u_95.trans i_u_75; (xf_c (xf_r i_u_95))))))) (xf_b2 (F := fun k => wp_X7_fails k u_69 (3 : Int32) (u_69.1 6)) (fp_X7_fails u_69 (3 : Int32) (u_69.1 6)) (fun r_97 u_98 j_u_98 => have i_u_98 := j_u_98.trans i_u_69; (xf_c (xf_r i_u_98))))))) (xf_b2 (F := fun k => wp_X7_isWord k u_69 6) (fp_X7_isWord u_69 6) (fun r_100 u_101 j_u_101 => have i_u_101 := j_u_101.trans i_u_69; (xf_p (xf_b2 (F := fun k => wp_X7_fails k u_101 (1 : Int32) (u_101.1 6)) (fp_X7_fails u_101 (1 : Int32) (u_101.1 6)) (fun r_103 u_104 j_u_104 => have i_u_104 := j_u_104.trans i_u_101; (xf_c (xf_r i_u_104)))) (xf_b1 (F := fun k => wp_X7_drums k u_101) (xf_dt (dt_X7_drums u_101)) (fun r_106 _ => (xf_n (xf_b2 (F := fun k => wp_X7_isWord k u_101 3) (fp_X7_isWord u_101 3) (fun r_109 u_110 j_u_110 => have i_u_110 := j_u_110.trans i_u_101; (xf_p (xf_b2 (F := fun k => wp_X7_isWord k u_110 4) (fp_X7_isWord u_110 4) (fun r_112 u_113 j_u_113 => have i_u_113 := j_u_113.trans i_u_110; (xf_p (xf_b2 (F := fun k => wp_X7_isWord k u_113 5) (fp_X7_isWord u_113 5) (fun r_115 u_116 j_u_116 => have i_u_116 := j_u_116.trans i_u_113; (xf_p (xf_b2 (F := fun k => wp_X7_readsLose k u_116) (fp_X7_readsLose u_116) (fun r_118 u_119 j_u_119 => have i_u_119 := j_u_119.trans i_u_116; (xf_n (xf_b1 (F := fun k => wp_X7_sets k u_119 (u_119.1 12) (4 : Int32) (Int32.toInt64 (u_119.1 8))) (fp_X7_sets u_119 (u_119.1 12) (4 : Int32) (Int32.toInt64 (u_119.1 8))) (fun u_122 j_u_122 => have i_u_122 := j_u_122.trans i_u_119; (xf_r i_u_122))) (xf_r i_u_119)))) (xf_b2 (F := fun k => wp_X7_readsRow k u_116) (fp_X7_readsRow u_116) (fun r_123 u_124 j_u_124 => have i_u_124 := j_u_124.trans i_u_116; (xf_c (xf_r i_u_124))))))) (xf_b2 (F := fun k => wp_X7_readsWorn k u_113) (fp_X7_readsWorn u_113) (fun r_126 u_127 j_u_127 => have i_u_127 := j_u_127.trans i_u_113; (xf_c (xf_r i_u_127))))))) (xf_b2 (F := fun k => wp_X7_readsCells k u_110) (fp_X7_readsCells u_110) (fun r_129 u_130 j_u_130 => have i_u_130 := j_u_130.trans i_u_110; (xf_c (xf_r i_u_130))))))) (xf_b2 (F := fun k => wp_X7_fails k u_101 (3 : Int32) (u_101.1 6)) (fp_X7_fails u_101 (3 : Int32) (u_101.1 6)) (fun r_132 u_133 j_u_133 => have i_u_133 := j_u_133.trans i_u_101; (xf_c (xf_r i_u_133))))))))))))))))))) (xf_b2 (F := fun k => wp_X7_readsDrum k u_2) (fp_X7_readsDrum u_2) (fun r_135 u_136 j_u_136 => have i_u_136 := j_u_136.trans i_u_2; (xf_c (xf_r i_u_136)))))))
set_option maxHeartbeats 4000000 in
theorem fo_X7_readsBoard_L116  {O : Type} {I : O → Prop} {c0 : (Int32 × (Nat → Int64) × (Nat → Int64) × (Nat → Int32))}  {G_post : Int32 → Md → (O → Prop) → Prop} {G_e147 : Md → (O → Prop) → Prop} {G_e149 : Md → (O → Prop) → Prop} (h_post : ∀ (v0 : Int32) (v1 : Md), (v1.1 0, v1.2.2.1 1, v1.2.2.1 2, v1.2.2.2 0) = c0 → xf (G_post v0 v1) I) (h_e147 : ∀ (v0 : Md), (v0.1 0, v0.2.2.1 1, v0.2.2.1 2, v0.2.2.2 0) = c0 → xf (G_e147 v0) I) (h_e149 : ∀ (v0 : Md), (v0.1 0, v0.2.2.1 1, v0.2.2.1 2, v0.2.2.2 0) = c0 → xf (G_e149 v0) I) : ∀ (n : Nat) (t0 : Md), (t0.1 0, t0.2.2.1 1, t0.2.2.1 2, t0.2.2.2 0) = c0 → xf (fun P : O → Prop => wp_X7_readsBoard_L116 (fun v0 v1 => G_post v0 v1 P) (fun v0 => G_e147 v0 P) (fun v0 => G_e149 v0 P) n t0) I := by
  intro n
  induction n with
  | zero => exact fun _ _ => xf_F
  | succ n116 ih =>
    intro t0 i_t0
    unfold wp_X7_readsBoard_L116
    exact (xf_b2 (F := fun k => wp_X7_nextByte k t0) (fp_X7_nextByte t0) (fun r_20 u_21 j_u_21 => have i_u_21 := j_u_21.trans i_t0; (xf_n (h_e149 u_21 i_u_21) (xf_b2 (F := fun k => wp_X7_nextByte k ((va_up u_21.1 6 ((u_21.1 6) + 1)), u_21.2.1, u_21.2.2.1, u_21.2.2.2)) (fp_X7_nextByte ((va_up u_21.1 6 ((u_21.1 6) + 1)), u_21.2.1, u_21.2.2.1, u_21.2.2.2)) (fun r_23 u_24 j_u_24 => have i_u_24 := j_u_24.trans i_u_21; (xf_b2 (F := fun k => wp_X7_readsPart k u_24) (fp_X7_readsPart u_24) (fun r_25 u_26 j_u_26 => have i_u_26 := j_u_26.trans i_u_24; (xf_n (ih u_26 i_u_26) (h_e147 u_26 i_u_26)))))))))
set_option maxHeartbeats 4000000 in
theorem fo_X7_readsBoard_L116b  {O : Type} {I : O → Prop} {c0 : (Int32 × (Nat → Int64) × (Nat → Int64) × (Nat → Int32))}  {G_post : Int32 → Md → (O → Prop) → Prop} {G_e147 : Md → (O → Prop) → Prop} {G_e149 : Md → (O → Prop) → Prop} (h_post : ∀ (v0 : Int32) (v1 : Md), (v1.1 0, v1.2.2.1 1, v1.2.2.1 2, v1.2.2.2 0) = c0 → xf (G_post v0 v1) I) (h_e147 : ∀ (v0 : Md), (v0.1 0, v0.2.2.1 1, v0.2.2.1 2, v0.2.2.2 0) = c0 → xf (G_e147 v0) I) (h_e149 : ∀ (v0 : Md), (v0.1 0, v0.2.2.1 1, v0.2.2.1 2, v0.2.2.2 0) = c0 → xf (G_e149 v0) I) : ∀ (n : Nat) (t0 : Md), (t0.1 0, t0.2.2.1 1, t0.2.2.1 2, t0.2.2.2 0) = c0 → xf (fun P : O → Prop => wp_X7_readsBoard_L116b (fun v0 v1 => G_post v0 v1 P) (fun v0 => G_e147 v0 P) (fun v0 => G_e149 v0 P) n t0) I := by
  intro n
  induction n with
  | zero => exact fun _ _ => xf_F
  | succ n116 ih =>
    intro t0 i_t0
    unfold wp_X7_readsBoard_L116b
    exact (xf_b2 (F := fun k => wp_X7_nextByte k t0) (fp_X7_nextByte t0) (fun r_52 u_53 j_u_53 => have i_u_53 := j_u_53.trans i_t0; (xf_n (h_e149 u_53 i_u_53) (xf_b2 (F := fun k => wp_X7_nextByte k ((va_up u_53.1 6 ((u_53.1 6) + 1)), u_53.2.1, u_53.2.2.1, u_53.2.2.2)) (fp_X7_nextByte ((va_up u_53.1 6 ((u_53.1 6) + 1)), u_53.2.1, u_53.2.2.1, u_53.2.2.2)) (fun r_55 u_56 j_u_56 => have i_u_56 := j_u_56.trans i_u_53; (xf_b2 (F := fun k => wp_X7_readsPart k u_56) (fp_X7_readsPart u_56) (fun r_57 u_58 j_u_58 => have i_u_58 := j_u_58.trans i_u_56; (xf_n (ih u_58 i_u_58) (h_e147 u_58 i_u_58)))))))))
set_option maxHeartbeats 4000000 in
theorem fp_X7_readsBoard (s0 : Md) : xf (fun P : (Int32 × Md) → Prop => wp_X7_readsBoard (fun a0 a1 => P (a0, a1)) s0) (fun o => (o.2.1 0, o.2.2.2.1 1, o.2.2.2.1 2, o.2.2.2.2 0) = (s0.1 0, s0.2.2.1 1, s0.2.2.1 2, s0.2.2.2 0)) := by
  unfold wp_X7_readsBoard
  exact (xf_b2 (F := fun k => wp_X7_mustWord k ((va_up s0.1 6 0), s0.2.1, s0.2.2.1, s0.2.2.2) 0) (fp_X7_mustWord ((va_up s0.1 6 0), s0.2.1, s0.2.2.1, s0.2.2.2) 0) (fun r_1 u_2 j_u_2 => have i_u_2 := j_u_2.trans rfl; (xf_p (xf_r i_u_2) (xf_b2 (F := fun k => wp_X7_readsNumber k u_2 (1 : Int32) (6 : Int32)) (fp_X7_readsNumber u_2 (1 : Int32) (6 : Int32)) (fun r_4 u_5 j_u_5 => have i_u_5 := j_u_5.trans i_u_2; (xf_n (xf_b1 (F := fun k => wp_X7_rows k (u_5.1, u_5.2.1, (va_up u_5.2.2.1 0 (vp_updL (u_5.2.2.1 0) (Int32.toNatClampNeg 0) (Int32.toInt64 (u_5.1 8)))), u_5.2.2.2)) (xf_dt (dt_X7_rows (u_5.1, u_5.2.1, (va_up u_5.2.2.1 0 (vp_updL (u_5.2.2.1 0) (Int32.toNatClampNeg 0) (Int32.toInt64 (u_5.1 8)))), u_5.2.2.2))) (fun r_7 _ => (xf_c (xf_p (xf_b2 (F := fun k => wp_X7_readsNumber k (u_5.1, u_5.2.1, (va_up u_5.2.2.1 0 (vp_updL (u_5.2.2.1 0) (Int32.toNatClampNeg 0) (Int32.toInt64 (u_5.1 8)))), u_5.2.2.2) (1 : Int32) (10 : Int32)) (fp_X7_readsNumber (u_5.1, u_5.2.1, (va_up u_5.2.2.1 0 (vp_updL (u_5.2.2.1 0) (Int32.toNatClampNeg 0) (Int32.toInt64 (u_5.1 8)))), u_5.2.2.2) (1 : Int32) (10 : Int32)) (fun r_11 u_12 j_u_12 => have i_u_12 := j_u_12.trans i_u_5; (xf_n (xf_b2 (F := fun k => wp_X7_mustWord k (u_12.1, u_12.2.1, (va_up u_12.2.2.1 0 (vp_updL (u_12.2.2.1 0) (Int32.toNatClampNeg 1) (Int32.toInt64 (u_12.1 8)))), u_12.2.2.2) 1) (fp_X7_mustWord (u_12.1, u_12.2.1, (va_up u_12.2.2.1 0 (vp_updL (u_12.2.2.1 0) (Int32.toNatClampNeg 1) (Int32.toInt64 (u_12.1 8)))), u_12.2.2.2) 1) (fun r_14 u_15 j_u_15 => have i_u_15 := j_u_15.trans i_u_12; (xf_p (xf_r i_u_15) (xf_b2 (F := fun k => wp_X7_readsNumber k u_15 (1 : Int32) (99 : Int32)) (fp_X7_readsNumber u_15 (1 : Int32) (99 : Int32)) (fun r_17 u_18 j_u_18 => have i_u_18 := j_u_18.trans i_u_15; (xf_n (xf_x (fun n116 => (fo_X7_readsBoard_L116  (fun v0 v1 i_v1 => (xf_r i_v1)) (fun t0 i_t0 => (xf_r i_t0)) (fun t0 i_t0 => (xf_b2 (F := fun k => wp_X7_nextByte k t0) (fp_X7_nextByte t0) (fun r_28 u_29 j_u_29 => have i_u_29 := j_u_29.trans i_t0; (xf_p (xf_b1 (F := fun k => wp_X7_drums k u_29) (xf_dt (dt_X7_drums u_29)) (fun r_31 _ => (xf_p (xf_r i_u_29) (xf_b2 (F := fun k => wp_X7_fails k u_29 (4 : Int32) (u_29.1 5)) (fp_X7_fails u_29 (4 : Int32) (u_29.1 5)) (fun r_34 u_35 j_u_35 => have i_u_35 := j_u_35.trans i_u_29; (xf_p (xf_r i_u_35) (xf_r i_u_35))))))) (xf_b2 (F := fun k => wp_X7_fails k u_29 (1 : Int32) (u_29.1 6)) (fp_X7_fails u_29 (1 : Int32) (u_29.1 6)) (fun r_37 u_38 j_u_38 => have i_u_38 := j_u_38.trans i_u_29; (xf_c (xf_r i_u_38)))))))) n116 (u_18.1, u_18.2.1, (va_up u_18.2.2.1 0 (vp_updL (u_18.2.2.1 0) (Int32.toNatClampNeg 2) (Int32.toInt64 (u_18.1 8)))), u_18.2.2.2) i_u_18))) (xf_r i_u_18))))))) (xf_r i_u_12)))) (xf_b1 (F := fun k => wp_X7_rows k (u_5.1, u_5.2.1, (va_up u_5.2.2.1 0 (vp_updL (u_5.2.2.1 0) (Int32.toNatClampNeg 0) (Int32.toInt64 (u_5.1 8)))), u_5.2.2.2)) (xf_dt (dt_X7_rows (u_5.1, u_5.2.1, (va_up u_5.2.2.1 0 (vp_updL (u_5.2.2.1 0) (Int32.toNatClampNeg 0) (Int32.toInt64 (u_5.1 8)))), u_5.2.2.2))) (fun r_40 _ => (xf_c (xf_b2 (F := fun k => wp_X7_readsNumber k (u_5.1, u_5.2.1, (va_up u_5.2.2.1 0 (vp_updL (u_5.2.2.1 0) (Int32.toNatClampNeg 0) (Int32.toInt64 (u_5.1 8)))), u_5.2.2.2) (1 : Int32) (40 / r_40)) (fp_X7_readsNumber (u_5.1, u_5.2.1, (va_up u_5.2.2.1 0 (vp_updL (u_5.2.2.1 0) (Int32.toNatClampNeg 0) (Int32.toInt64 (u_5.1 8)))), u_5.2.2.2) (1 : Int32) (40 / r_40)) (fun r_43 u_44 j_u_44 => have i_u_44 := j_u_44.trans i_u_5; (xf_n (xf_b2 (F := fun k => wp_X7_mustWord k (u_44.1, u_44.2.1, (va_up u_44.2.2.1 0 (vp_updL (u_44.2.2.1 0) (Int32.toNatClampNeg 1) (Int32.toInt64 (u_44.1 8)))), u_44.2.2.2) 1) (fp_X7_mustWord (u_44.1, u_44.2.1, (va_up u_44.2.2.1 0 (vp_updL (u_44.2.2.1 0) (Int32.toNatClampNeg 1) (Int32.toInt64 (u_44.1 8)))), u_44.2.2.2) 1) (fun r_46 u_47 j_u_47 => have i_u_47 := j_u_47.trans i_u_44; (xf_p (xf_r i_u_47) (xf_b2 (F := fun k => wp_X7_readsNumber k u_47 (1 : Int32) (99 : Int32)) (fp_X7_readsNumber u_47 (1 : Int32) (99 : Int32)) (fun r_49 u_50 j_u_50 => have i_u_50 := j_u_50.trans i_u_47; (xf_n (xf_x (fun n116 => (fo_X7_readsBoard_L116b  (fun v0 v1 i_v1 => (xf_r i_v1)) (fun t0 i_t0 => (xf_r i_t0)) (fun t0 i_t0 => (xf_b2 (F := fun k => wp_X7_nextByte k t0) (fp_X7_nextByte t0) (fun r_60 u_61 j_u_61 => have i_u_61 := j_u_61.trans i_t0; (xf_p (xf_b1 (F := fun k => wp_X7_drums k u_61) (xf_dt (dt_X7_drums u_61)) (fun r_63 _ => (xf_p (xf_r i_u_61) (xf_b2 (F := fun k => wp_X7_fails k u_61 (4 : Int32) (u_61.1 5)) (fp_X7_fails u_61 (4 : Int32) (u_61.1 5)) (fun r_66 u_67 j_u_67 => have i_u_67 := j_u_67.trans i_u_61; (xf_p (xf_r i_u_67) (xf_r i_u_67))))))) (xf_b2 (F := fun k => wp_X7_fails k u_61 (1 : Int32) (u_61.1 6)) (fp_X7_fails u_61 (1 : Int32) (u_61.1 6)) (fun r_69 u_70 j_u_70 => have i_u_70 := j_u_70.trans i_u_61; (xf_c (xf_r i_u_70)))))))) n116 (u_50.1, u_50.2.1, (va_up u_50.2.2.1 0 (vp_updL (u_50.2.2.1 0) (Int32.toNatClampNeg 2) (Int32.toInt64 (u_50.1 8)))), u_50.2.2.2) i_u_50))) (xf_r i_u_50))))))) (xf_r i_u_44))))))))))) (xf_r i_u_5)))))))

set_option maxHeartbeats 4000000 in
theorem fv_X7_findsTurning_L33  {O : Type} {I : O → Prop} {c0 : (Nat → Int64)}  {G_post : Md → (O → Prop) → Prop} {G_e91 : Md → Int64 → Int32 → Int32 → Int32 → (O → Prop) → Prop} (h_post : ∀ (v0 : Md), v0.2.2.1 0 = c0 → xf (G_post v0) I) (h_e91 : ∀ (v0 : Md) (v1 : Int64) (v2 : Int32) (v3 : Int32) (v4 : Int32), v0.2.2.1 0 = c0 → xf (G_e91 v0 v1 v2 v3 v4) I) : ∀ (n : Nat) (t0 : Md) (w1 : Int64) (z3 : Int32) (z4 : Int32) (z5 : Int32), t0.2.2.1 0 = c0 → xf (fun P : O → Prop => wp_X7_findsTurning_L33 (fun v0 => G_post v0 P) (fun v0 v1 v2 v3 v4 => G_e91 v0 v1 v2 v3 v4 P) n t0 w1 z3 z4 z5) I := by
  intro n
  induction n with
  | zero => exact fun _ _ _ _ _ _ => xf_F
  | succ n33 ih =>
    intro t0 w1 z3 z4 z5 i_t0
    unfold wp_X7_findsTurning_L33
    exact (xf_b1 (F := fun k => wp_X7_cells k t0) (xf_dt (dt_X7_cells t0)) (fun r_4 _ => (xf_p (h_e91 t0 w1 z3 z4 z5 i_t0) (xf_b1 (F := fun k => wp_X7_isIn k w1 z5) (xf_dt (dt_X7_isIn w1 z5)) (fun r_7 _ => (xf_n (ih t0 w1 z3 z4 (z5 + 1) i_t0) (xf_b1 (F := fun k => wp_X7_leftOf k t0 z5) (xf_dt (dt_X7_leftOf t0 z5)) (fun r_10 _ => (xf_p (ih t0 w1 z3 z4 (z5 + 1) i_t0) (xf_p (ih t0 w1 z3 z5 (z5 + 1) i_t0) (xf_b1 (F := fun k => wp_X7_leftOf k t0 z5) (xf_dt (dt_X7_leftOf t0 z5)) (fun r_14 _ => (xf_b1 (F := fun k => wp_X7_leftOf k t0 z4) (xf_dt (dt_X7_leftOf t0 z4)) (fun r_16 _ => (xf_p (ih t0 w1 z3 z4 (z5 + 1) i_t0) (ih t0 w1 z3 z5 (z5 + 1) i_t0))))))))))))))))
set_option maxHeartbeats 4000000 in
theorem fv_X7_findsTurning_L19  {O : Type} {I : O → Prop} {c0 : (Nat → Int64)}  {G_post : Md → (O → Prop) → Prop} {G_e174 : Md → Int64 → Int32 → (O → Prop) → Prop} (h_post : ∀ (v0 : Md), v0.2.2.1 0 = c0 → xf (G_post v0) I) (h_e174 : ∀ (v0 : Md) (v1 : Int64) (v2 : Int32), v0.2.2.1 0 = c0 → xf (G_e174 v0 v1 v2) I) : ∀ (n : Nat) (t0 : Md) (w1 : Int64) (z3 : Int32), t0.2.2.1 0 = c0 → xf (fun P : O → Prop => wp_X7_findsTurning_L19 (fun v0 => G_post v0 P) (fun v0 v1 v2 => G_e174 v0 v1 v2 P) n t0 w1 z3) I := by
  intro n
  induction n with
  | zero => exact fun _ _ _ _ => xf_F
  | succ n19 ih =>
    intro t0 w1 z3 i_t0
    unfold wp_X7_findsTurning_L19
    exact (xf_b1 (F := fun k => wp_X7_cells k t0) (xf_dt (dt_X7_cells t0)) (fun r_1 _ => (xf_p (h_e174 t0 w1 z3 i_t0) (xf_x (fun n33 => (fv_X7_findsTurning_L33  (fun v0 i_v0 => (h_post v0 i_v0)) (fun t0 w1 z3 z4 z5 i_t0 => (xf_n (xf_b1 (F := fun k => wp_X7_current k t0 z4) (xf_dt (dt_X7_current t0 z4)) (fun r_20 _ => (xf_p (xf_b1 (F := fun k => wp_X7_current k ((va_up t0.1 1 ((t0.1 1) + 1)), (t0.2.1 ||| ((1 : Int64) <<< ((Int32.toInt64 z4) &&& 63))), t0.2.2.1, t0.2.2.2) z4) (xf_dt (dt_X7_current ((va_up t0.1 1 ((t0.1 1) + 1)), (t0.2.1 ||| ((1 : Int64) <<< ((Int32.toInt64 z4) &&& 63))), t0.2.2.1, t0.2.2.2) z4)) (fun r_23 _ => (ih ((va_up (va_up t0.1 1 ((t0.1 1) + 1)) 2 ((t0.1 2) + r_23)), (t0.2.1 ||| ((1 : Int64) <<< ((Int32.toInt64 z4) &&& 63))), t0.2.2.1, t0.2.2.2) (w1 ||| ((1 : Int64) <<< ((Int32.toInt64 z4) &&& 63))) (z3 + 1) i_t0))) (ih t0 (w1 ||| ((1 : Int64) <<< ((Int32.toInt64 z4) &&& 63))) (z3 + 1) i_t0)))) (h_post t0 i_t0))) n33 t0 w1 z3 (-1) 0 i_t0))))))
set_option maxHeartbeats 4000000 in
theorem fw_X7_findsTurning (s0 : Md) : xf (fun P : Md → Prop => wp_X7_findsTurning (fun a0 => P a0) s0) (fun o => o.2.2.1 0 = s0.2.2.1 0) := by
  unfold wp_X7_findsTurning
  exact (xf_x (fun n19 => (fv_X7_findsTurning_L19  (fun v0 i_v0 => (xf_r i_v0)) (fun t0 w1 z3 i_t0 => (xf_r i_t0)) n19 ((va_up (va_up s0.1 1 0) 2 0), 0, s0.2.2.1, s0.2.2.2) 0 0 rfl)))
set_option maxHeartbeats 4000000 in
theorem fv_X7_which_L32  {O : Type} {I : O → Prop} {c0 : (Nat → Int64)}  {G_post : Int64 → Md → (O → Prop) → Prop} {G_e64 : Md → Int32 → Int64 → Int32 → (O → Prop) → Prop} (h_post : ∀ (v0 : Int64) (v1 : Md), v1.2.2.1 0 = c0 → xf (G_post v0 v1) I) (h_e64 : ∀ (v0 : Md) (v1 : Int32) (v2 : Int64) (v3 : Int32), v0.2.2.1 0 = c0 → xf (G_e64 v0 v1 v2 v3) I) : ∀ (n : Nat) (t0 : Md) (z1 : Int32) (w2 : Int64) (z4 : Int32), t0.2.2.1 0 = c0 → xf (fun P : O → Prop => wp_X7_which_L32 (fun v0 v1 => G_post v0 v1 P) (fun v0 v1 v2 v3 => G_e64 v0 v1 v2 v3 P) n t0 z1 w2 z4) I := by
  intro n
  induction n with
  | zero => exact fun _ _ _ _ _ => xf_F
  | succ n32 ih =>
    intro t0 z1 w2 z4 i_t0
    unfold wp_X7_which_L32
    exact (xf_b1 (F := fun k => wp_X7_cells k t0) (xf_dt (dt_X7_cells t0)) (fun r_9 _ => (xf_p (h_e64 t0 z1 w2 z4 i_t0) (xf_b1 (F := fun k => wp_X7_isSuch k t0 z4 z1) (xf_dt (dt_X7_isSuch t0 z4 z1)) (fun r_12 _ => (xf_p (ih t0 z1 w2 (z4 + 1) i_t0) (ih t0 z1 (w2 ||| ((1 : Int64) <<< ((Int32.toInt64 z4) &&& 63))) (z4 + 1) i_t0)))))))
set_option maxHeartbeats 4000000 in
theorem fw_X7_which (s0 : Md) (x1 : Int32) : xf (fun P : (Int64 × Md) → Prop => wp_X7_which (fun a0 a1 => P (a0, a1)) s0 x1) (fun o => o.2.2.2.1 0 = s0.2.2.1 0) := by
  unfold wp_X7_which
  exact (xf_b1 (F := fun k => wp_X7_isBoard k s0) (xf_dt (dt_X7_isBoard s0)) (fun r_1 _ => (xf_p (xf_r rfl) (xf_b1 (F := fun k => wp_X7_in k (Int32.toInt64 x1) (0 : Int64) (4 : Int64)) (xf_dt (dt_X7_in (Int32.toInt64 x1) (0 : Int64) (4 : Int64))) (fun r_4 _ => (xf_n (xf_b1 (F := fun k => wp_X7_findsTurning k s0) (fw_X7_findsTurning s0) (fun u_8 j_u_8 => have i_u_8 := j_u_8.trans rfl; (xf_x (fun n32 => (fv_X7_which_L32  (fun v0 v1 i_v1 => (xf_r i_v1)) (fun t0 z1 w2 z4 i_t0 => (xf_r i_t0)) n32 u_8 x1 0 0 i_u_8))))) (xf_r rfl)))))))
set_option maxHeartbeats 4000000 in
theorem fv_X7_asks_L13  {O : Type} {I : O → Prop} {c0 : (Nat → Int64)}  {G_post : Md → (O → Prop) → Prop} {G_e135 : Md → Int32 → Int32 → Int32 → Int32 → Int32 → (O → Prop) → Prop} (h_post : ∀ (v0 : Md), v0.2.2.1 0 = c0 → xf (G_post v0) I) (h_e135 : ∀ (v0 : Md) (v1 : Int32) (v2 : Int32) (v3 : Int32) (v4 : Int32) (v5 : Int32), v0.2.2.1 0 = c0 → xf (G_e135 v0 v1 v2 v3 v4 v5) I) : ∀ (n : Nat) (t0 : Md) (z1 : Int32) (z2 : Int32) (z3 : Int32) (z4 : Int32) (z5 : Int32), t0.2.2.1 0 = c0 → xf (fun P : O → Prop => wp_X7_asks_L13 (fun v0 => G_post v0 P) (fun v0 v1 v2 v3 v4 v5 => G_e135 v0 v1 v2 v3 v4 v5 P) n t0 z1 z2 z3 z4 z5) I := by
  intro n
  induction n with
  | zero => exact fun _ _ _ _ _ _ _ => xf_F
  | succ n13 ih =>
    intro t0 z1 z2 z3 z4 z5 i_t0
    unfold wp_X7_asks_L13
    exact (xf_b1 (F := fun k => wp_X7_wide k t0) (xf_dt (dt_X7_wide t0)) (fun r_1 _ => (xf_p (h_e135 t0 z1 z2 z3 z4 z5 i_t0) (xf_b1 (F := fun k => wp_X7_wide k t0) (xf_dt (dt_X7_wide t0)) (fun r_4 _ => (xf_p (xf_b1 (F := fun k => wp_X7_of k t0 ((r_4 * z1) + z5) (2 : Int32)) (xf_dt (dt_X7_of t0 ((r_4 * z1) + z5) (2 : Int32))) (fun r_7 _ => (xf_b1 (F := fun k => wp_X7_flaps k t0 ((r_4 * z1) + z5)) (xf_dt (dt_X7_flaps t0 ((r_4 * z1) + z5))) (fun r_9 _ => (xf_b1 (F := fun k => wp_X7_on k r_7 (0 : Int32) r_9) (xf_dt (dt_X7_on r_7 (0 : Int32) r_9)) (fun r_11 _ => (ih ((va_up t0.1 3 ((t0.1 3) + r_11)), t0.2.1, t0.2.2.1, t0.2.2.2) z1 z2 z3 z4 (z5 + 1) i_t0))))))) (xf_p (xf_b1 (F := fun k => wp_X7_of k t0 ((r_4 * z1) + z5) (2 : Int32)) (xf_dt (dt_X7_of t0 ((r_4 * z1) + z5) (2 : Int32))) (fun r_14 _ => (xf_b1 (F := fun k => wp_X7_flaps k t0 ((r_4 * z1) + z5)) (xf_dt (dt_X7_flaps t0 ((r_4 * z1) + z5))) (fun r_16 _ => (xf_b1 (F := fun k => wp_X7_on k r_14 (0 : Int32) r_16) (xf_dt (dt_X7_on r_14 (0 : Int32) r_16)) (fun r_18 _ => (ih ((va_up t0.1 3 ((t0.1 3) + r_18)), t0.2.1, t0.2.2.1, t0.2.2.2) z1 z2 z3 z4 (z5 + 1) i_t0))))))) (xf_c (xf_b1 (F := fun k => wp_X7_flapFor k t0 ((r_4 * z1) + z5) ((t0.2.2.2 2) (Int32.toNatClampNeg ((z3 + z5) - z2)))) (xf_dt (dt_X7_flapFor t0 ((r_4 * z1) + z5) ((t0.2.2.2 2) (Int32.toNatClampNeg ((z3 + z5) - z2))))) (fun r_21 _ => (xf_n (xf_b1 (F := fun k => wp_X7_of k t0 ((r_4 * z1) + z5) (2 : Int32)) (xf_dt (dt_X7_of t0 ((r_4 * z1) + z5) (2 : Int32))) (fun r_24 _ => (xf_b1 (F := fun k => wp_X7_flaps k t0 ((r_4 * z1) + z5)) (xf_dt (dt_X7_flaps t0 ((r_4 * z1) + z5))) (fun r_26 _ => (xf_b1 (F := fun k => wp_X7_on k r_24 r_21 r_26) (xf_dt (dt_X7_on r_24 r_21 r_26)) (fun r_28 _ => (ih ((va_up t0.1 3 ((t0.1 3) + r_28)), t0.2.1, t0.2.2.1, t0.2.2.2) z1 z2 z3 z4 (z5 + 1) i_t0))))))) (ih ((va_up t0.1 4 ((t0.1 4) + 1)), t0.2.1, t0.2.2.1, t0.2.2.2) z1 z2 z3 z4 (z5 + 1) i_t0))))))))))))
set_option maxHeartbeats 4000000 in
theorem fw_X7_asks (s0 : Md) (x1 : Int32) (x2 : Int32) (x3 : Int32) (x4 : Int32) : xf (fun P : Md → Prop => wp_X7_asks (fun a0 => P a0) s0 x1 x2 x3 x4) (fun o => o.2.2.1 0 = s0.2.2.1 0) := by
  unfold wp_X7_asks
  exact (xf_x (fun n13 => (fv_X7_asks_L13  (fun v0 i_v0 => (xf_r i_v0)) (fun t0 z1 z2 z3 z4 z5 i_t0 => (xf_r i_t0)) n13 ((va_up (va_up s0.1 3 0) 4 0), s0.2.1, s0.2.2.1, s0.2.2.2) x1 x2 x3 x4 0 rfl)))
set_option maxHeartbeats 4000000 in
theorem fw_X7_cost (s0 : Md) (x1 : Int32) : xf (fun P : (Int32 × Md) → Prop => wp_X7_cost (fun a0 a1 => P (a0, a1)) s0 x1) (fun o => o.2.2.2.1 0 = s0.2.2.1 0) := by
  unfold wp_X7_cost
  exact (xf_b1 (F := fun k => wp_X7_isRow k s0 x1) (xf_dt (dt_X7_isRow s0 x1)) (fun r_1 _ => (xf_n (xf_b1 (F := fun k => wp_X7_isRowText k s0 (s0.1 5)) (xf_dt (dt_X7_isRowText s0 (s0.1 5))) (fun r_4 _ => (xf_n (xf_b1 (F := fun k => wp_X7_asks k s0 x1 (0 : Int32) (0 : Int32) (s0.1 5)) (fw_X7_asks s0 x1 (0 : Int32) (0 : Int32) (s0.1 5)) (fun u_8 j_u_8 => have i_u_8 := j_u_8.trans rfl; (xf_r i_u_8))) (xf_r rfl)))) (xf_r rfl))))
set_option maxHeartbeats 4000000 in
theorem fv_X7_best_L36  {O : Type} {I : O → Prop} {c0 : (Nat → Int64)}  {G_post : Int32 → Md → (O → Prop) → Prop} {G_e152 : Md → Int32 → Int32 → Int32 → Int32 → Int32 → Int32 → Int32 → (O → Prop) → Prop} (h_post : ∀ (v0 : Int32) (v1 : Md), v1.2.2.1 0 = c0 → xf (G_post v0 v1) I) (h_e152 : ∀ (v0 : Md) (v1 : Int32) (v2 : Int32) (v3 : Int32) (v4 : Int32) (v5 : Int32) (v6 : Int32) (v7 : Int32), v0.2.2.1 0 = c0 → xf (G_e152 v0 v1 v2 v3 v4 v5 v6 v7) I) : ∀ (n : Nat) (t0 : Md) (z1 : Int32) (z2 : Int32) (z3 : Int32) (z4 : Int32) (z5 : Int32) (z6 : Int32) (z7 : Int32), t0.2.2.1 0 = c0 → xf (fun P : O → Prop => wp_X7_best_L36 (fun v0 v1 => G_post v0 v1 P) (fun v0 v1 v2 v3 v4 v5 v6 v7 => G_e152 v0 v1 v2 v3 v4 v5 v6 v7 P) n t0 z1 z2 z3 z4 z5 z6 z7) I := by
  intro n
  induction n with
  | zero => exact fun _ _ _ _ _ _ _ _ _ => xf_F
  | succ n36 ih =>
    intro t0 z1 z2 z3 z4 z5 z6 z7 i_t0
    unfold wp_X7_best_L36
    exact (xf_p (h_e152 t0 z1 z2 z3 z4 z5 z6 z7 i_t0) (xf_b1 (F := fun k => wp_X7_endOf k t0 z7) (xf_dt (dt_X7_endOf t0 z7)) (fun r_8 _ => (xf_b1 (F := fun k => wp_X7_wide k t0) (xf_dt (dt_X7_wide t0)) (fun r_10 _ => (xf_p (h_post (-2) t0 i_t0) (xf_b1 (F := fun k => wp_X7_areSigns k t0 z7 (r_8 - z7)) (xf_dt (dt_X7_areSigns t0 z7 (r_8 - z7))) (fun r_13 _ => (xf_n (xf_b1 (F := fun k => wp_X7_asks k t0 z1 (0 : Int32) z7 (r_8 - z7)) (fw_X7_asks t0 z1 (0 : Int32) z7 (r_8 - z7)) (fun u_17 j_u_17 => have i_u_17 := j_u_17.trans i_t0; (xf_p (xf_b1 (F := fun k => wp_X7_endOf k u_17 z7) (xf_dt (dt_X7_endOf u_17 z7)) (fun r_19 _ => (ih u_17 z1 z2 z6 (u_17.1 3) (u_17.1 4) (z6 + 1) (r_19 + 1) i_u_17))) (xf_p (xf_b1 (F := fun k => wp_X7_endOf k u_17 z7) (xf_dt (dt_X7_endOf u_17 z7)) (fun r_22 _ => (ih u_17 z1 z2 z6 (u_17.1 3) (u_17.1 4) (z6 + 1) (r_22 + 1) i_u_17))) (xf_n (xf_b1 (F := fun k => wp_X7_endOf k u_17 z7) (xf_dt (dt_X7_endOf u_17 z7)) (fun r_25 _ => (ih u_17 z1 z2 z3 z4 z5 (z6 + 1) (r_25 + 1) i_u_17))) (xf_p (xf_b1 (F := fun k => wp_X7_endOf k u_17 z7) (xf_dt (dt_X7_endOf u_17 z7)) (fun r_28 _ => (ih u_17 z1 z2 z3 z4 z5 (z6 + 1) (r_28 + 1) i_u_17))) (xf_b1 (F := fun k => wp_X7_endOf k u_17 z7) (xf_dt (dt_X7_endOf u_17 z7)) (fun r_30 _ => (ih u_17 z1 z2 z6 (u_17.1 3) (u_17.1 4) (z6 + 1) (r_30 + 1) i_u_17))))))))) (h_post (-2) t0 i_t0))))))))))
set_option maxHeartbeats 4000000 in
theorem fw_X7_best (s0 : Md) (x1 : Int32) (x2 : Int32) : xf (fun P : (Int32 × Md) → Prop => wp_X7_best (fun a0 a1 => P (a0, a1)) s0 x1 x2) (fun o => o.2.2.2.1 0 = s0.2.2.1 0) := by
  unfold wp_X7_best
  exact (xf_b1 (F := fun k => wp_X7_isRow k s0 x1) (xf_dt (dt_X7_isRow s0 x1)) (fun r_1 _ => (xf_p (xf_r rfl) (xf_b1 (F := fun k => wp_X7_in k (Int32.toInt64 x2) (0 : Int64) (2 : Int64)) (xf_dt (dt_X7_in (Int32.toInt64 x2) (0 : Int64) (2 : Int64))) (fun r_4 _ => (xf_n (xf_x (fun n36 => (fv_X7_best_L36  (fun v0 v1 i_v1 => (xf_r i_v1)) (fun t0 z1 z2 z3 z4 z5 z6 z7 i_t0 => (xf_n (xf_n (xf_r i_t0) (xf_r i_t0)) (xf_r i_t0))) n36 s0 x1 x2 (-1) 0 0 0 0 rfl))) (xf_r rfl)))))))
set_option maxHeartbeats 4000000 in
theorem fv_X7_place_L52  {O : Type} {I : O → Prop} {c0 : (Nat → Int64)}  {G_post : Int32 → Md → (O → Prop) → Prop} {G_e134 : Md → Int32 → Int32 → Int32 → Int32 → Int32 → Int32 → (O → Prop) → Prop} (h_post : ∀ (v0 : Int32) (v1 : Md), v1.2.2.1 0 = c0 → xf (G_post v0 v1) I) (h_e134 : ∀ (v0 : Md) (v1 : Int32) (v2 : Int32) (v3 : Int32) (v4 : Int32) (v5 : Int32) (v6 : Int32), v0.2.2.1 0 = c0 → xf (G_e134 v0 v1 v2 v3 v4 v5 v6) I) : ∀ (n : Nat) (t0 : Md) (z1 : Int32) (z2 : Int32) (z3 : Int32) (z4 : Int32) (z5 : Int32) (z6 : Int32), t0.2.2.1 0 = c0 → xf (fun P : O → Prop => wp_X7_place_L52 (fun v0 v1 => G_post v0 v1 P) (fun v0 v1 v2 v3 v4 v5 v6 => G_e134 v0 v1 v2 v3 v4 v5 v6 P) n t0 z1 z2 z3 z4 z5 z6) I := by
  intro n
  induction n with
  | zero => exact fun _ _ _ _ _ _ _ _ => xf_F
  | succ n52 ih =>
    intro t0 z1 z2 z3 z4 z5 z6 i_t0
    unfold wp_X7_place_L52
    exact (xf_b1 (F := fun k => wp_X7_wide k t0) (xf_dt (dt_X7_wide t0)) (fun r_11 _ => (xf_p (h_e134 t0 z1 z2 z3 z4 z5 z6 i_t0) (xf_b1 (F := fun k => wp_X7_asks k t0 z1 z6 (0 : Int32) (t0.1 5)) (fw_X7_asks t0 z1 z6 (0 : Int32) (t0.1 5)) (fun u_15 j_u_15 => have i_u_15 := j_u_15.trans i_t0; (xf_p (ih u_15 z1 z2 z6 (u_15.1 3) (u_15.1 4) (z6 + 1) i_u_15) (xf_p (ih u_15 z1 z2 z3 z4 z5 (z6 + 1) i_u_15) (xf_n (ih u_15 z1 z2 z6 (u_15.1 3) (u_15.1 4) (z6 + 1) i_u_15) (xf_p (ih u_15 z1 z2 z6 (u_15.1 3) (u_15.1 4) (z6 + 1) i_u_15) (ih u_15 z1 z2 z3 z4 z5 (z6 + 1) i_u_15))))))))))
set_option maxHeartbeats 4000000 in
theorem fw_X7_place (s0 : Md) (x1 : Int32) (x2 : Int32) : xf (fun P : (Int32 × Md) → Prop => wp_X7_place (fun a0 a1 => P (a0, a1)) s0 x1 x2) (fun o => o.2.2.2.1 0 = s0.2.2.1 0) := by
  unfold wp_X7_place
  exact (xf_b1 (F := fun k => wp_X7_isRow k s0 x1) (xf_dt (dt_X7_isRow s0 x1)) (fun r_1 _ => (xf_p (xf_r rfl) (xf_b1 (F := fun k => wp_X7_in k (Int32.toInt64 x2) (0 : Int64) (1 : Int64)) (xf_dt (dt_X7_in (Int32.toInt64 x2) (0 : Int64) (1 : Int64))) (fun r_4 _ => (xf_n (xf_p (xf_r rfl) (xf_b1 (F := fun k => wp_X7_isRowText k s0 (s0.1 5)) (xf_dt (dt_X7_isRowText s0 (s0.1 5))) (fun r_8 _ => (xf_n (xf_x (fun n52 => (fv_X7_place_L52  (fun v0 v1 i_v1 => (xf_r i_v1)) (fun t0 z1 z2 z3 z4 z5 z6 i_t0 => (xf_n (xf_r i_t0) (xf_r i_t0))) n52 s0 x1 x2 (-1) 0 0 0 rfl))) (xf_r rfl))))) (xf_r rfl)))))))
set_option maxHeartbeats 4000000 in
theorem fv_X7_lays_L3  {O : Type} {I : O → Prop} {c0 : (Nat → Int64)}  {G_post : Md → (O → Prop) → Prop} {G_e36 : Md → Int32 → Int32 → (O → Prop) → Prop} (h_post : ∀ (v0 : Md), v0.2.2.1 0 = c0 → xf (G_post v0) I) (h_e36 : ∀ (v0 : Md) (v1 : Int32) (v2 : Int32), v0.2.2.1 0 = c0 → xf (G_e36 v0 v1 v2) I) : ∀ (n : Nat) (t0 : Md) (z1 : Int32) (z2 : Int32), t0.2.2.1 0 = c0 → xf (fun P : O → Prop => wp_X7_lays_L3 (fun v0 => G_post v0 P) (fun v0 v1 v2 => G_e36 v0 v1 v2 P) n t0 z1 z2) I := by
  intro n
  induction n with
  | zero => exact fun _ _ _ _ => xf_F
  | succ n3 ih =>
    intro t0 z1 z2 i_t0
    unfold wp_X7_lays_L3
    exact (xf_p (h_e36 t0 z1 z2 i_t0) (xf_c (ih ((va_up t0.1 5 ((t0.1 5) + 1)), t0.2.1, t0.2.2.1, (va_up t0.2.2.2 2 (upd (t0.2.2.2 2) (Int32.toNatClampNeg (t0.1 5)) (vp_nar .byte (Int8.toInt32 (Int32.toInt8 (z1 >>> (z2 &&& 31)))))))) z1 (z2 + (-8)) i_t0)))
set_option maxHeartbeats 4000000 in
theorem fw_X7_lays (s0 : Md) (x1 : Int32) : xf (fun P : Md → Prop => wp_X7_lays (fun a0 => P a0) s0 x1) (fun o => o.2.2.1 0 = s0.2.2.1 0) := by
  unfold wp_X7_lays
  exact (xf_x (fun n3 => (fv_X7_lays_L3  (fun v0 i_v0 => (xf_r i_v0)) (fun t0 z1 z2 i_t0 => (xf_r i_t0)) n3 s0 x1 24 rfl)))
set_option maxHeartbeats 4000000 in
theorem fw_X7_feed (s0 : Md) (x1 : Int32) (x2 : Int32) (x3 : Int32) (x4 : Int32) (x5 : Int32) : xf (fun P : (Int32 × Md) → Prop => wp_X7_feed (fun a0 a1 => P (a0, a1)) s0 x1 x2 x3 x4 x5) (fun o => o.2.2.2.1 0 = s0.2.2.1 0) := by
  unfold wp_X7_feed
  exact (xf_p (xf_b1 (F := fun k => wp_X7_lays k s0 x1) (fw_X7_lays s0 x1) (fun u_3 j_u_3 => have i_u_3 := j_u_3.trans rfl; (xf_b1 (F := fun k => wp_X7_lays k u_3 x2) (fw_X7_lays u_3 x2) (fun u_5 j_u_5 => have i_u_5 := j_u_5.trans i_u_3; (xf_b1 (F := fun k => wp_X7_lays k u_5 x3) (fw_X7_lays u_5 x3) (fun u_7 j_u_7 => have i_u_7 := j_u_7.trans i_u_5; (xf_b1 (F := fun k => wp_X7_lays k u_7 x4) (fw_X7_lays u_7 x4) (fun u_9 j_u_9 => have i_u_9 := j_u_9.trans i_u_7; (xf_b1 (F := fun k => wp_X7_lays k u_9 x5) (fw_X7_lays u_9 x5) (fun u_11 j_u_11 => have i_u_11 := j_u_11.trans i_u_9; (xf_r i_u_11))))))))))) (xf_r rfl))
set_option maxHeartbeats 4000000 in
theorem fw_X7_end (s0 : Md) (x1 : Int32) : xf (fun P : (Int32 × Md) → Prop => wp_X7_end (fun a0 a1 => P (a0, a1)) s0 x1) (fun o => o.2.2.2.1 0 = s0.2.2.1 0) := by
  unfold wp_X7_end
  exact (xf_b1 (F := fun k => wp_X7_in k (Int32.toInt64 x1) (0 : Int64) (Int32.toInt64 (s0.1 5))) (xf_dt (dt_X7_in (Int32.toInt64 x1) (0 : Int64) (Int32.toInt64 (s0.1 5)))) (fun r_1 _ => (xf_n (xf_r rfl) (xf_r rfl))))

set_option maxHeartbeats 4000000 in
theorem fd_X7_sets (s0 : Md) (x1 : Int32) (x2 : Int32) (y3 : Int64) : xf (fun P : Md → Prop => wp_X7_sets (fun a0 => P a0) s0 x1 x2 y3) (fun o => o.2.2.1 3 = s0.2.2.1 3) := by
  unfold wp_X7_sets
  exact (xf_c (xf_r rfl))
set_option maxHeartbeats 4000000 in
theorem fd_X7_wantsFlap (s0 : Md) (x1 : Int32) (x2 : Int32) (x3 : Int32) : xf (fun P : Md → Prop => wp_X7_wantsFlap (fun a0 => P a0) s0 x1 x2 x3) (fun o => o.2.2.1 3 = s0.2.2.1 3) := by
  unfold wp_X7_wantsFlap
  exact (xf_b1 (F := fun k => wp_X7_sets k s0 x1 (3 : Int32) (Int32.toInt64 x2)) (fd_X7_sets s0 x1 (3 : Int32) (Int32.toInt64 x2)) (fun u_2 j_u_2 => have i_u_2 := j_u_2.trans rfl; (xf_p (xf_r i_u_2) (xf_b1 (F := fun k => wp_X7_of k u_2 x1 (2 : Int32)) (xf_dt (dt_X7_of u_2 x1 (2 : Int32))) (fun r_4 _ => (xf_p (xf_r i_u_2) (xf_b1 (F := fun k => wp_X7_of k u_2 x1 (0 : Int32)) (xf_dt (dt_X7_of u_2 x1 (0 : Int32))) (fun r_7 _ => (xf_b1 (F := fun k => wp_X7_of k u_2 x1 (2 : Int32)) (xf_dt (dt_X7_of u_2 x1 (2 : Int32))) (fun r_9 _ => (xf_c (xf_c (xf_r i_u_2)))))))))))))
set_option maxHeartbeats 4000000 in
theorem fe_X7_wantsSigns_L6  {O : Type} {I : O → Prop} {c0 : (Nat → Int64)}  {G_post : Int32 → Md → (O → Prop) → Prop} {G_e81 : Md → Int32 → Int32 → Int32 → Int32 → Int32 → Int32 → (O → Prop) → Prop} (h_post : ∀ (v0 : Int32) (v1 : Md), v1.2.2.1 3 = c0 → xf (G_post v0 v1) I) (h_e81 : ∀ (v0 : Md) (v1 : Int32) (v2 : Int32) (v3 : Int32) (v4 : Int32) (v5 : Int32) (v6 : Int32), v0.2.2.1 3 = c0 → xf (G_e81 v0 v1 v2 v3 v4 v5 v6) I) : ∀ (n : Nat) (t0 : Md) (z1 : Int32) (z2 : Int32) (z3 : Int32) (z4 : Int32) (z5 : Int32) (z6 : Int32), t0.2.2.1 3 = c0 → xf (fun P : O → Prop => wp_X7_wantsSigns_L6 (fun v0 v1 => G_post v0 v1 P) (fun v0 v1 v2 v3 v4 v5 v6 => G_e81 v0 v1 v2 v3 v4 v5 v6 P) n t0 z1 z2 z3 z4 z5 z6) I := by
  intro n
  induction n with
  | zero => exact fun _ _ _ _ _ _ _ _ => xf_F
  | succ n6 ih =>
    intro t0 z1 z2 z3 z4 z5 z6 i_t0
    unfold wp_X7_wantsSigns_L6
    exact (xf_b1 (F := fun k => wp_X7_wide k t0) (xf_dt (dt_X7_wide t0)) (fun r_1 _ => (xf_p (h_e81 t0 z1 z2 z3 z4 z5 z6 i_t0) (xf_b1 (F := fun k => wp_X7_wide k t0) (xf_dt (dt_X7_wide t0)) (fun r_4 _ => (xf_p (xf_b1 (F := fun k => wp_X7_wantsFlap k t0 ((r_4 * z1) + z6) (0 : Int32) z4) (fd_X7_wantsFlap t0 ((r_4 * z1) + z6) (0 : Int32) z4) (fun u_8 j_u_8 => have i_u_8 := j_u_8.trans i_t0; (ih u_8 z1 z2 z3 z4 z5 (z6 + 1) i_u_8))) (xf_c (xf_b1 (F := fun k => wp_X7_flapFor k t0 ((r_4 * z1) + z6) ((t0.2.2.2 2) (Int32.toNatClampNeg (z2 + z6)))) (xf_dt (dt_X7_flapFor t0 ((r_4 * z1) + z6) ((t0.2.2.2 2) (Int32.toNatClampNeg (z2 + z6))))) (fun r_10 _ => (xf_n (xf_b1 (F := fun k => wp_X7_wantsFlap k t0 ((r_4 * z1) + z6) r_10 z4) (fd_X7_wantsFlap t0 ((r_4 * z1) + z6) r_10 z4) (fun u_14 j_u_14 => have i_u_14 := j_u_14.trans i_t0; (ih u_14 z1 z2 z3 z4 z5 (z6 + 1) i_u_14))) (ih t0 z1 z2 z3 z4 (z5 + 1) (z6 + 1) i_t0)))))))))))
set_option maxHeartbeats 4000000 in
theorem fd_X7_wantsSigns (s0 : Md) (x1 : Int32) (x2 : Int32) (x3 : Int32) (x4 : Int32) : xf (fun P : (Int32 × Md) → Prop => wp_X7_wantsSigns (fun a0 a1 => P (a0, a1)) s0 x1 x2 x3 x4) (fun o => o.2.2.2.1 3 = s0.2.2.1 3) := by
  unfold wp_X7_wantsSigns
  exact (xf_x (fun n6 => (fe_X7_wantsSigns_L6  (fun v0 v1 i_v1 => (xf_r i_v1)) (fun t0 z1 z2 z3 z4 z5 z6 i_t0 => (xf_r i_t0)) n6 s0 x1 x2 x3 x4 0 0 rfl)))
set_option maxHeartbeats 4000000 in
theorem fd_X7_wears (s0 : Md) (x1 : Int32) (x2 : Int32) : xf (fun P : Md → Prop => wp_X7_wears (fun a0 => P a0) s0 x1 x2) (fun o => o.2.2.1 3 = s0.2.2.1 3) := by
  unfold wp_X7_wears
  exact (xf_b1 (F := fun k => wp_X7_wornOf k s0 x1) (xf_dt (dt_X7_wornOf s0 x1)) (fun r_1 _ => (xf_b1 (F := fun k => wp_X7_sets k s0 x1 (7 : Int32) (r_1 ||| ((1 : Int64) <<< ((Int32.toInt64 x2) &&& 63)))) (fd_X7_sets s0 x1 (7 : Int32) (r_1 ||| ((1 : Int64) <<< ((Int32.toInt64 x2) &&& 63)))) (fun u_4 j_u_4 => have i_u_4 := j_u_4.trans rfl; (xf_b1 (F := fun k => wp_X7_of k u_4 x1 (3 : Int32)) (xf_dt (dt_X7_of u_4 x1 (3 : Int32))) (fun r_5 _ => (xf_n (xf_r i_u_4) (xf_b1 (F := fun k => wp_X7_sets k u_4 x1 (3 : Int32) (0 : Int64)) (fd_X7_sets u_4 x1 (3 : Int32) (0 : Int64)) (fun u_9 j_u_9 => have i_u_9 := j_u_9.trans i_u_4; (xf_r i_u_9))))))))))
set_option maxHeartbeats 4000000 in
theorem fe_X7_nextByte_L0  {O : Type} {I : O → Prop} {c0 : (Nat → Int64)}  {G_post : Int32 → Md → (O → Prop) → Prop} {G_e26 : Md → (O → Prop) → Prop} (h_post : ∀ (v0 : Int32) (v1 : Md), v1.2.2.1 3 = c0 → xf (G_post v0 v1) I) (h_e26 : ∀ (v0 : Md), v0.2.2.1 3 = c0 → xf (G_e26 v0) I) : ∀ (n : Nat) (t0 : Md), t0.2.2.1 3 = c0 → xf (fun P : O → Prop => wp_X7_nextByte_L0 (fun v0 v1 => G_post v0 v1 P) (fun v0 => G_e26 v0 P) n t0) I := by
  intro n
  induction n with
  | zero => exact fun _ _ => xf_F
  | succ n0 ih =>
    intro t0 i_t0
    unfold wp_X7_nextByte_L0
    exact (xf_b1 (F := fun k => wp_X7_byteAt k t0 (t0.1 6)) (xf_dt (dt_X7_byteAt t0 (t0.1 6))) (fun r_1 _ => (xf_n (h_e26 t0 i_t0) (ih ((va_up t0.1 6 ((t0.1 6) + 1)), t0.2.1, t0.2.2.1, t0.2.2.2) i_t0))))
set_option maxHeartbeats 4000000 in
theorem fd_X7_nextByte (s0 : Md) : xf (fun P : (Int32 × Md) → Prop => wp_X7_nextByte (fun a0 a1 => P (a0, a1)) s0) (fun o => o.2.2.2.1 3 = s0.2.2.1 3) := by
  unfold wp_X7_nextByte
  exact (xf_x (fun n0 => (fe_X7_nextByte_L0  (fun v0 v1 i_v1 => (xf_r i_v1)) (fun t0 i_t0 => (xf_b1 (F := fun k => wp_X7_byteAt k t0 (t0.1 6)) (xf_dt (dt_X7_byteAt t0 (t0.1 6))) (fun r_4 _ => (xf_r i_t0)))) n0 s0 rfl)))
set_option maxHeartbeats 4000000 in
theorem fd_X7_fails (s0 : Md) (x1 : Int32) (x2 : Int32) : xf (fun P : (Int32 × Md) → Prop => wp_X7_fails (fun a0 a1 => P (a0, a1)) s0 x1 x2) (fun o => o.2.2.2.1 3 = s0.2.2.1 3) := by
  unfold wp_X7_fails
  exact (xf_r rfl)
set_option maxHeartbeats 4000000 in
theorem fe_X7_isWord_L22 (i1 : Nat) {O : Type} {I : O → Prop} {c0 : (Nat → Int64)}  {G_post : Int32 → Md → (O → Prop) → Prop} {G_e51 : Md → Int32 → Int32 → (O → Prop) → Prop} (h_post : ∀ (v0 : Int32) (v1 : Md), v1.2.2.1 3 = c0 → xf (G_post v0 v1) I) (h_e51 : ∀ (v0 : Md) (v1 : Int32) (v2 : Int32), v0.2.2.1 3 = c0 → xf (G_e51 v0 v1 v2) I) : ∀ (n : Nat) (t0 : Md) (z2 : Int32) (z3 : Int32), t0.2.2.1 3 = c0 → xf (fun P : O → Prop => wp_X7_isWord_L22 i1 (fun v0 v1 => G_post v0 v1 P) (fun v0 v1 v2 => G_e51 v0 v1 v2 P) n t0 z2 z3) I := by
  intro n
  induction n with
  | zero => exact fun _ _ _ _ => xf_F
  | succ n22 ih =>
    intro t0 z2 z3 i_t0
    unfold wp_X7_isWord_L22
    exact (xf_b1 (F := fun k => wp_J0_length_8abf5 k i1) (xf_dt (dt_J0_length_8abf5 i1)) (fun r_4 _ => (xf_p (h_e51 t0 z2 z3 i_t0) (xf_b1 (F := fun k => wp_X7_byteAt k t0 (z2 + z3)) (xf_dt (dt_X7_byteAt t0 (z2 + z3))) (fun r_7 _ => (xf_b1 (F := fun k => wp_J0_charAt_5068e k i1 z3) (xf_dt (dt_J0_charAt_5068e i1 z3)) (fun r_9 _ => (xf_n (h_e51 t0 z2 z3 i_t0) (ih t0 z2 (z3 + 1) i_t0)))))))))
set_option maxHeartbeats 4000000 in
theorem fe_X7_isWord_L22b (i1 : Nat) {O : Type} {I : O → Prop} {c0 : (Nat → Int64)}  {G_post : Int32 → Md → (O → Prop) → Prop} {G_e51 : Md → Int32 → Int32 → (O → Prop) → Prop} (h_post : ∀ (v0 : Int32) (v1 : Md), v1.2.2.1 3 = c0 → xf (G_post v0 v1) I) (h_e51 : ∀ (v0 : Md) (v1 : Int32) (v2 : Int32), v0.2.2.1 3 = c0 → xf (G_e51 v0 v1 v2) I) : ∀ (n : Nat) (t0 : Md) (z2 : Int32) (z3 : Int32), t0.2.2.1 3 = c0 → xf (fun P : O → Prop => wp_X7_isWord_L22b i1 (fun v0 v1 => G_post v0 v1 P) (fun v0 v1 v2 => G_e51 v0 v1 v2 P) n t0 z2 z3) I := by
  intro n
  induction n with
  | zero => exact fun _ _ _ _ => xf_F
  | succ n22 ih =>
    intro t0 z2 z3 i_t0
    unfold wp_X7_isWord_L22b
    exact (xf_b1 (F := fun k => wp_J0_length_8abf5 k i1) (xf_dt (dt_J0_length_8abf5 i1)) (fun r_20 _ => (xf_p (h_e51 t0 z2 z3 i_t0) (xf_b1 (F := fun k => wp_X7_byteAt k t0 (z2 + z3)) (xf_dt (dt_X7_byteAt t0 (z2 + z3))) (fun r_23 _ => (xf_b1 (F := fun k => wp_J0_charAt_5068e k i1 z3) (xf_dt (dt_J0_charAt_5068e i1 z3)) (fun r_25 _ => (xf_n (h_e51 t0 z2 z3 i_t0) (ih t0 z2 (z3 + 1) i_t0)))))))))
set_option maxHeartbeats 4000000 in
theorem fd_X7_isWord (s0 : Md) (i1 : Nat) : xf (fun P : (Int32 × Md) → Prop => wp_X7_isWord (fun a0 a1 => P (a0, a1)) s0 i1) (fun o => o.2.2.2.1 3 = s0.2.2.1 3) := by
  unfold wp_X7_isWord
  exact (xf_b2 (F := fun k => wp_X7_nextByte k s0) (fd_X7_nextByte s0) (fun r_1 u_2 j_u_2 => have i_u_2 := j_u_2.trans rfl; (xf_n (xf_x (fun n22 => (fe_X7_isWord_L22 i1 (fun v0 v1 i_v1 => (xf_r i_v1)) (fun t0 z2 z3 i_t0 => (xf_b1 (F := fun k => wp_J0_length_8abf5 k i1) (xf_dt (dt_J0_length_8abf5 i1)) (fun r_12 _ => (xf_n (xf_r i_t0) (xf_b1 (F := fun k => wp_X7_byteAt k t0 (z2 + z3)) (xf_dt (dt_X7_byteAt t0 (z2 + z3))) (fun r_15 _ => (xf_b1 (F := fun k => wp_X7_in k (Int32.toInt64 r_15) (97 : Int64) (122 : Int64)) (xf_dt (dt_X7_in (Int32.toInt64 r_15) (97 : Int64) (122 : Int64))) (fun r_17 _ => (xf_n (xf_r i_t0) (xf_r i_t0)))))))))) n22 u_2 (u_2.1 6) 0 i_u_2))) (xf_x (fun n22 => (fe_X7_isWord_L22b i1 (fun v0 v1 i_v1 => (xf_r i_v1)) (fun t0 z2 z3 i_t0 => (xf_b1 (F := fun k => wp_J0_length_8abf5 k i1) (xf_dt (dt_J0_length_8abf5 i1)) (fun r_28 _ => (xf_n (xf_r i_t0) (xf_b1 (F := fun k => wp_X7_byteAt k t0 (z2 + z3)) (xf_dt (dt_X7_byteAt t0 (z2 + z3))) (fun r_31 _ => (xf_b1 (F := fun k => wp_X7_in k (Int32.toInt64 r_31) (97 : Int64) (122 : Int64)) (xf_dt (dt_X7_in (Int32.toInt64 r_31) (97 : Int64) (122 : Int64))) (fun r_33 _ => (xf_n (xf_r i_t0) (xf_r i_t0)))))))))) n22 u_2 (u_2.1 5) 0 i_u_2))))))
set_option maxHeartbeats 4000000 in
theorem fd_X7_takesWord (s0 : Md) (i1 : Nat) : xf (fun P : (Int32 × Md) → Prop => wp_X7_takesWord (fun a0 a1 => P (a0, a1)) s0 i1) (fun o => o.2.2.2.1 3 = s0.2.2.1 3) := by
  unfold wp_X7_takesWord
  exact (xf_b2 (F := fun k => wp_X7_isWord k s0 i1) (fd_X7_isWord s0 i1) (fun r_1 u_2 j_u_2 => have i_u_2 := j_u_2.trans rfl; (xf_p (xf_c (xf_r i_u_2)) (xf_b1 (F := fun k => wp_J0_length_8abf5 k i1) (xf_dt (dt_J0_length_8abf5 i1)) (fun r_5 _ => (xf_c (xf_r i_u_2)))))))
set_option maxHeartbeats 4000000 in
theorem fd_X7_mustWord (s0 : Md) (i1 : Nat) : xf (fun P : (Int32 × Md) → Prop => wp_X7_mustWord (fun a0 a1 => P (a0, a1)) s0 i1) (fun o => o.2.2.2.1 3 = s0.2.2.1 3) := by
  unfold wp_X7_mustWord
  exact (xf_b2 (F := fun k => wp_X7_takesWord k s0 i1) (fd_X7_takesWord s0 i1) (fun r_1 u_2 j_u_2 => have i_u_2 := j_u_2.trans rfl; (xf_n (xf_r i_u_2) (xf_b2 (F := fun k => wp_X7_fails k u_2 (1 : Int32) (u_2.1 6)) (fd_X7_fails u_2 (1 : Int32) (u_2.1 6)) (fun r_4 u_5 j_u_5 => have i_u_5 := j_u_5.trans i_u_2; (xf_p (xf_r i_u_5) (xf_r i_u_5)))))))
set_option maxHeartbeats 4000000 in
theorem fd_X7_takesByte (s0 : Md) (x1 : Int32) : xf (fun P : (Int32 × Md) → Prop => wp_X7_takesByte (fun a0 a1 => P (a0, a1)) s0 x1) (fun o => o.2.2.2.1 3 = s0.2.2.1 3) := by
  unfold wp_X7_takesByte
  exact (xf_b2 (F := fun k => wp_X7_nextByte k s0) (fd_X7_nextByte s0) (fun r_1 u_2 j_u_2 => have i_u_2 := j_u_2.trans rfl; (xf_n (xf_r i_u_2) (xf_r i_u_2))))
set_option maxHeartbeats 4000000 in
theorem fd_X7_mustByte (s0 : Md) (x1 : Int32) : xf (fun P : (Int32 × Md) → Prop => wp_X7_mustByte (fun a0 a1 => P (a0, a1)) s0 x1) (fun o => o.2.2.2.1 3 = s0.2.2.1 3) := by
  unfold wp_X7_mustByte
  exact (xf_b2 (F := fun k => wp_X7_takesByte k s0 x1) (fd_X7_takesByte s0 x1) (fun r_1 u_2 j_u_2 => have i_u_2 := j_u_2.trans rfl; (xf_n (xf_r i_u_2) (xf_b2 (F := fun k => wp_X7_fails k u_2 (1 : Int32) (u_2.1 6)) (fd_X7_fails u_2 (1 : Int32) (u_2.1 6)) (fun r_4 u_5 j_u_5 => have i_u_5 := j_u_5.trans i_u_2; (xf_p (xf_r i_u_5) (xf_r i_u_5)))))))
set_option maxHeartbeats 4000000 in
theorem fe_X7_readsNumber_L40  {O : Type} {I : O → Prop} {c0 : (Nat → Int64)}  {G_post : Int32 → Md → (O → Prop) → Prop} {G_e107 : Md → Int32 → Int32 → (O → Prop) → Prop} (h_post : ∀ (v0 : Int32) (v1 : Md), v1.2.2.1 3 = c0 → xf (G_post v0 v1) I) (h_e107 : ∀ (v0 : Md) (v1 : Int32) (v2 : Int32), v0.2.2.1 3 = c0 → xf (G_e107 v0 v1 v2) I) : ∀ (n : Nat) (t0 : Md) (z1 : Int32) (z2 : Int32), t0.2.2.1 3 = c0 → xf (fun P : O → Prop => wp_X7_readsNumber_L40 (fun v0 v1 => G_post v0 v1 P) (fun v0 v1 v2 => G_e107 v0 v1 v2 P) n t0 z1 z2) I := by
  intro n
  induction n with
  | zero => exact fun _ _ _ _ => xf_F
  | succ n40 ih =>
    intro t0 z1 z2 i_t0
    unfold wp_X7_readsNumber_L40
    exact (xf_b1 (F := fun k => wp_X7_byteAt k t0 (t0.1 6)) (xf_dt (dt_X7_byteAt t0 (t0.1 6))) (fun r_6 _ => (xf_b1 (F := fun k => wp_X7_in k (Int32.toInt64 r_6) (48 : Int64) (57 : Int64)) (xf_dt (dt_X7_in (Int32.toInt64 r_6) (48 : Int64) (57 : Int64))) (fun r_8 _ => (xf_p (h_e107 t0 z1 z2 i_t0) (xf_p (ih ((va_up t0.1 6 ((t0.1 6) + 1)), t0.2.1, t0.2.2.1, t0.2.2.2) z1 z2 i_t0) (xf_b1 (F := fun k => wp_X7_byteAt k t0 (t0.1 6)) (xf_dt (dt_X7_byteAt t0 (t0.1 6))) (fun r_12 _ => (ih ((va_up (va_up t0.1 6 ((t0.1 6) + 1)) 8 (((10 * (t0.1 8)) + r_12) - 48)), t0.2.1, t0.2.2.1, t0.2.2.2) z1 z2 i_t0)))))))))
set_option maxHeartbeats 4000000 in
theorem fd_X7_readsNumber (s0 : Md) (x1 : Int32) (x2 : Int32) : xf (fun P : (Int32 × Md) → Prop => wp_X7_readsNumber (fun a0 a1 => P (a0, a1)) s0 x1 x2) (fun o => o.2.2.2.1 3 = s0.2.2.1 3) := by
  unfold wp_X7_readsNumber
  exact (xf_b2 (F := fun k => wp_X7_nextByte k s0) (fd_X7_nextByte s0) (fun r_1 u_2 j_u_2 => have i_u_2 := j_u_2.trans rfl; (xf_b1 (F := fun k => wp_X7_in k (Int32.toInt64 r_1) (48 : Int64) (57 : Int64)) (xf_dt (dt_X7_in (Int32.toInt64 r_1) (48 : Int64) (57 : Int64))) (fun r_3 _ => (xf_n (xf_x (fun n40 => (fe_X7_readsNumber_L40  (fun v0 v1 i_v1 => (xf_r i_v1)) (fun t0 z1 z2 i_t0 => (xf_b1 (F := fun k => wp_X7_in k (Int32.toInt64 (t0.1 8)) (Int32.toInt64 z1) (Int32.toInt64 z2)) (xf_dt (dt_X7_in (Int32.toInt64 (t0.1 8)) (Int32.toInt64 z1) (Int32.toInt64 z2))) (fun r_14 _ => (xf_n (xf_r i_t0) (xf_b2 (F := fun k => wp_X7_fails k t0 (2 : Int32) (t0.1 9)) (fd_X7_fails t0 (2 : Int32) (t0.1 9)) (fun r_17 u_18 j_u_18 => have i_u_18 := j_u_18.trans i_t0; (xf_p (xf_r i_u_18) (xf_r i_u_18)))))))) n40 ((va_up (va_up u_2.1 8 0) 9 (u_2.1 6)), u_2.2.1, u_2.2.2.1, u_2.2.2.2) x1 x2 i_u_2))) (xf_b2 (F := fun k => wp_X7_fails k u_2 (1 : Int32) (u_2.1 6)) (fd_X7_fails u_2 (1 : Int32) (u_2.1 6)) (fun r_20 u_21 j_u_21 => have i_u_21 := j_u_21.trans i_u_2; (xf_c (xf_r i_u_21)))))))))
set_option maxHeartbeats 4000000 in
theorem fe_X7_readsQuoted_L24  {O : Type} {I : O → Prop} {c0 : (Nat → Int64)}  {G_post : Int32 → Md → (O → Prop) → Prop} {G_e102 : Md → Int32 → Int32 → (O → Prop) → Prop} (h_post : ∀ (v0 : Int32) (v1 : Md), v1.2.2.1 3 = c0 → xf (G_post v0 v1) I) (h_e102 : ∀ (v0 : Md) (v1 : Int32) (v2 : Int32), v0.2.2.1 3 = c0 → xf (G_e102 v0 v1 v2) I) : ∀ (n : Nat) (t0 : Md) (z1 : Int32) (z2 : Int32), t0.2.2.1 3 = c0 → xf (fun P : O → Prop => wp_X7_readsQuoted_L24 (fun v0 v1 => G_post v0 v1 P) (fun v0 v1 v2 => G_e102 v0 v1 v2 P) n t0 z1 z2) I := by
  intro n
  induction n with
  | zero => exact fun _ _ _ _ => xf_F
  | succ n24 ih =>
    intro t0 z1 z2 i_t0
    unfold wp_X7_readsQuoted_L24
    exact (xf_b1 (F := fun k => wp_X7_byteAt k t0 (t0.1 6)) (xf_dt (dt_X7_byteAt t0 (t0.1 6))) (fun r_4 _ => (xf_p (h_e102 t0 z1 z2 i_t0) (xf_b1 (F := fun k => wp_X7_byteAt k t0 (t0.1 6)) (xf_dt (dt_X7_byteAt t0 (t0.1 6))) (fun r_7 _ => (xf_b1 (F := fun k => wp_X7_isSign k r_7) (xf_dt (dt_X7_isSign r_7)) (fun r_9 _ => (xf_n (xf_n (ih ((va_up (va_up t0.1 6 ((t0.1 6) + 1)) 11 ((t0.1 11) + 1)), t0.2.1, t0.2.2.1, t0.2.2.2) z1 z2 i_t0) (xf_b2 (F := fun k => wp_X7_fails k t0 (2 : Int32) (t0.1 6)) (fd_X7_fails t0 (2 : Int32) (t0.1 6)) (fun r_13 u_14 j_u_14 => have i_u_14 := j_u_14.trans i_t0; (xf_c (h_post r_13 u_14 i_u_14))))) (xf_b2 (F := fun k => wp_X7_fails k t0 (1 : Int32) (t0.1 6)) (fd_X7_fails t0 (1 : Int32) (t0.1 6)) (fun r_16 u_17 j_u_17 => have i_u_17 := j_u_17.trans i_t0; (xf_c (h_post r_16 u_17 i_u_17))))))))))))
set_option maxHeartbeats 4000000 in
theorem fd_X7_readsQuoted (s0 : Md) (x1 : Int32) (x2 : Int32) : xf (fun P : (Int32 × Md) → Prop => wp_X7_readsQuoted (fun a0 a1 => P (a0, a1)) s0 x1 x2) (fun o => o.2.2.2.1 3 = s0.2.2.1 3) := by
  unfold wp_X7_readsQuoted
  exact (xf_b2 (F := fun k => wp_X7_mustByte k s0 (39 : Int32)) (fd_X7_mustByte s0 (39 : Int32)) (fun r_1 u_2 j_u_2 => have i_u_2 := j_u_2.trans rfl; (xf_n (xf_x (fun n24 => (fe_X7_readsQuoted_L24  (fun v0 v1 i_v1 => (xf_r i_v1)) (fun t0 z1 z2 i_t0 => (xf_p (xf_r i_t0) (xf_b2 (F := fun k => wp_X7_fails k t0 (2 : Int32) (t0.1 6)) (fd_X7_fails t0 (2 : Int32) (t0.1 6)) (fun r_20 u_21 j_u_21 => have i_u_21 := j_u_21.trans i_t0; (xf_c (xf_r i_u_21)))))) n24 ((va_up (va_up u_2.1 10 (u_2.1 6)) 11 0), u_2.2.1, u_2.2.2.1, u_2.2.2.2) x1 x2 i_u_2))) (xf_r i_u_2))))
set_option maxHeartbeats 4000000 in
theorem fe_X7_readsDrum_L91  {O : Type} {I : O → Prop} {c0 : (Nat → Int64)}  {G_post : Int32 → Md → (O → Prop) → Prop} {G_e127 : Md → Int32 → Int32 → Int32 → (O → Prop) → Prop} (h_post : ∀ (v0 : Int32) (v1 : Md), v1.2.2.1 3 = c0 → xf (G_post v0 v1) I) (h_e127 : ∀ (v0 : Md) (v1 : Int32) (v2 : Int32) (v3 : Int32), v0.2.2.1 3 = c0 → xf (G_e127 v0 v1 v2 v3) I) : ∀ (n : Nat) (t0 : Md) (z1 : Int32) (z2 : Int32) (z3 : Int32), t0.2.2.1 3 = c0 → xf (fun P : O → Prop => wp_X7_readsDrum_L91 (fun v0 v1 => G_post v0 v1 P) (fun v0 v1 v2 v3 => G_e127 v0 v1 v2 v3 P) n t0 z1 z2 z3) I := by
  intro n
  induction n with
  | zero => exact fun _ _ _ _ _ => xf_F
  | succ n91 ih =>
    intro t0 z1 z2 z3 i_t0
    unfold wp_X7_readsDrum_L91
    exact (xf_p (h_e127 t0 z1 z2 z3 i_t0) (xf_c (xf_c (ih (t0.1, t0.2.1, (va_up t0.2.2.1 0 (vp_updL (t0.2.2.1 0) (Int32.toNatClampNeg ((z2 + 2) + z3)) (Int32.toInt64 ((t0.2.2.2 2) (Int32.toNatClampNeg ((t0.1 10) + z3)))))), t0.2.2.2) z1 z2 (z3 + 1) i_t0))))
set_option maxHeartbeats 4000000 in
theorem fd_X7_readsDrum (s0 : Md) : xf (fun P : (Int32 × Md) → Prop => wp_X7_readsDrum (fun a0 a1 => P (a0, a1)) s0) (fun o => o.2.2.2.1 3 = s0.2.2.1 3) := by
  unfold wp_X7_readsDrum
  exact (xf_b1 (F := fun k => wp_X7_drums k s0) (xf_dt (dt_X7_drums s0)) (fun r_1 _ => (xf_n (xf_b2 (F := fun k => wp_X7_readsNumber k ((va_up s0.1 6 ((s0.1 6) + 4)), s0.2.1, s0.2.2.1, s0.2.2.2) (1 : Int32) (9 : Int32)) (fd_X7_readsNumber ((va_up s0.1 6 ((s0.1 6) + 4)), s0.2.1, s0.2.2.1, s0.2.2.2) (1 : Int32) (9 : Int32)) (fun r_4 u_5 j_u_5 => have i_u_5 := j_u_5.trans rfl; (xf_n (xf_b2 (F := fun k => wp_X7_readsQuoted k u_5 (2 : Int32) (40 : Int32)) (fd_X7_readsQuoted u_5 (2 : Int32) (40 : Int32)) (fun r_7 u_8 j_u_8 => have i_u_8 := j_u_8.trans i_u_5; (xf_n (xf_b1 (F := fun k => wp_X7_drums k u_8) (xf_dt (dt_X7_drums u_8)) (fun r_10 _ => (xf_c (xf_c (xf_x (fun n91 => (fe_X7_readsDrum_L91  (fun v0 v1 i_v1 => (xf_r i_v1)) (fun t0 z1 z2 z3 i_t0 => (xf_r i_t0)) n91 (u_8.1, u_8.2.1, (va_up u_8.2.2.1 0 (vp_updL (vp_updL (u_8.2.2.1 0) (Int32.toNatClampNeg (8 + (42 * r_10))) (Int32.toInt64 (u_5.1 8))) (Int32.toNatClampNeg ((8 + (42 * r_10)) + 1)) (Int32.toInt64 (u_8.1 11)))), u_8.2.2.2) (u_5.1 8) (8 + (42 * r_10)) 0 i_u_8))))))) (xf_r i_u_8)))) (xf_r i_u_5)))) (xf_b2 (F := fun k => wp_X7_fails k s0 (3 : Int32) (s0.1 6)) (fd_X7_fails s0 (3 : Int32) (s0.1 6)) (fun r_17 u_18 j_u_18 => have i_u_18 := j_u_18.trans rfl; (xf_c (xf_r i_u_18)))))))
set_option maxHeartbeats 4000000 in
theorem fe_X7_readsCells_L78  {O : Type} {I : O → Prop} {c0 : (Nat → Int64)}  {G_post : Int32 → Md → (O → Prop) → Prop} {G_e99 : Md → Int32 → Int32 → Int32 → Int32 → (O → Prop) → Prop} (h_post : ∀ (v0 : Int32) (v1 : Md), v1.2.2.1 3 = c0 → xf (G_post v0 v1) I) (h_e99 : ∀ (v0 : Md) (v1 : Int32) (v2 : Int32) (v3 : Int32) (v4 : Int32), v0.2.2.1 3 = c0 → xf (G_e99 v0 v1 v2 v3 v4) I) : ∀ (n : Nat) (t0 : Md) (z1 : Int32) (z2 : Int32) (z3 : Int32) (z4 : Int32), t0.2.2.1 3 = c0 → xf (fun P : O → Prop => wp_X7_readsCells_L78 (fun v0 v1 => G_post v0 v1 P) (fun v0 v1 v2 v3 v4 => G_e99 v0 v1 v2 v3 v4 P) n t0 z1 z2 z3 z4) I := by
  intro n
  induction n with
  | zero => exact fun _ _ _ _ _ _ => xf_F
  | succ n78 ih =>
    intro t0 z1 z2 z3 z4 i_t0
    unfold wp_X7_readsCells_L78
    exact (xf_p (h_e99 t0 z1 z2 z3 z4 i_t0) (xf_b1 (F := fun k => wp_X7_sets k t0 z3 z4 (0 : Int64)) (fd_X7_sets t0 z3 z4 (0 : Int64)) (fun u_19 j_u_19 => have i_u_19 := j_u_19.trans i_t0; (ih u_19 z1 z2 z3 (z4 + 1) i_u_19))))
set_option maxHeartbeats 4000000 in
theorem fe_X7_readsCells_L70  {O : Type} {I : O → Prop} {c0 : (Nat → Int64)}  {G_post : Int32 → Md → (O → Prop) → Prop} {G_e116 : Md → Int32 → Int32 → Int32 → (O → Prop) → Prop} (h_post : ∀ (v0 : Int32) (v1 : Md), v1.2.2.1 3 = c0 → xf (G_post v0 v1) I) (h_e116 : ∀ (v0 : Md) (v1 : Int32) (v2 : Int32) (v3 : Int32), v0.2.2.1 3 = c0 → xf (G_e116 v0 v1 v2 v3) I) : ∀ (n : Nat) (t0 : Md) (z1 : Int32) (z2 : Int32) (z3 : Int32), t0.2.2.1 3 = c0 → xf (fun P : O → Prop => wp_X7_readsCells_L70 (fun v0 v1 => G_post v0 v1 P) (fun v0 v1 v2 v3 => G_e116 v0 v1 v2 v3 P) n t0 z1 z2 z3) I := by
  intro n
  induction n with
  | zero => exact fun _ _ _ _ _ => xf_F
  | succ n70 ih =>
    intro t0 z1 z2 z3 i_t0
    unfold wp_X7_readsCells_L70
    exact (xf_p (h_e116 t0 z1 z2 z3 i_t0) (xf_x (fun n78 => (fe_X7_readsCells_L78  (fun v0 v1 i_v1 => (h_post v0 v1 i_v1)) (fun t0 z1 z2 z3 z4 i_t0 => (xf_b1 (F := fun k => wp_X7_sets k t0 z3 (0 : Int32) (Int32.toInt64 (t0.1 8))) (fd_X7_sets t0 z3 (0 : Int32) (Int32.toInt64 (t0.1 8))) (fun u_21 j_u_21 => have i_u_21 := j_u_21.trans i_t0; (ih u_21 z1 z2 (z3 + 1) i_u_21)))) n78 t0 z1 z2 z3 0 i_t0))))
set_option maxHeartbeats 4000000 in
theorem fd_X7_readsCells (s0 : Md) : xf (fun P : (Int32 × Md) → Prop => wp_X7_readsCells (fun a0 a1 => P (a0, a1)) s0) (fun o => o.2.2.2.1 3 = s0.2.2.1 3) := by
  unfold wp_X7_readsCells
  exact (xf_b1 (F := fun k => wp_X7_cells k ((va_up s0.1 6 ((s0.1 6) + 5)), s0.2.1, s0.2.2.1, s0.2.2.2)) (xf_dt (dt_X7_cells ((va_up s0.1 6 ((s0.1 6) + 5)), s0.2.1, s0.2.2.1, s0.2.2.2))) (fun r_1 _ => (xf_b2 (F := fun k => wp_X7_readsNumber k ((va_up s0.1 6 ((s0.1 6) + 5)), s0.2.1, s0.2.2.1, s0.2.2.2) (0 : Int32) (r_1 - 1)) (fd_X7_readsNumber ((va_up s0.1 6 ((s0.1 6) + 5)), s0.2.1, s0.2.2.1, s0.2.2.2) (0 : Int32) (r_1 - 1)) (fun r_3 u_4 j_u_4 => have i_u_4 := j_u_4.trans rfl; (xf_n (xf_b1 (F := fun k => wp_X7_cells k u_4) (xf_dt (dt_X7_cells u_4)) (fun r_6 _ => (xf_b2 (F := fun k => wp_X7_readsNumber k u_4 (u_4.1 8) (r_6 - 1)) (fd_X7_readsNumber u_4 (u_4.1 8) (r_6 - 1)) (fun r_8 u_9 j_u_9 => have i_u_9 := j_u_9.trans i_u_4; (xf_n (xf_b1 (F := fun k => wp_X7_drums k u_9) (xf_dt (dt_X7_drums u_9)) (fun r_11 _ => (xf_b2 (F := fun k => wp_X7_readsNumber k u_9 (0 : Int32) (r_11 - 1)) (fd_X7_readsNumber u_9 (0 : Int32) (r_11 - 1)) (fun r_13 u_14 j_u_14 => have i_u_14 := j_u_14.trans i_u_9; (xf_n (xf_x (fun n70 => (fe_X7_readsCells_L70  (fun v0 v1 i_v1 => (xf_r i_v1)) (fun t0 z1 z2 z3 i_t0 => (xf_r i_t0)) n70 u_14 (u_4.1 8) (u_9.1 8) (u_4.1 8) i_u_14))) (xf_r i_u_14)))))) (xf_r i_u_9)))))) (xf_r i_u_4))))))
set_option maxHeartbeats 4000000 in
theorem fd_X7_readsWorn (s0 : Md) : xf (fun P : (Int32 × Md) → Prop => wp_X7_readsWorn (fun a0 a1 => P (a0, a1)) s0) (fun o => o.2.2.2.1 3 = s0.2.2.1 3) := by
  unfold wp_X7_readsWorn
  exact (xf_b1 (F := fun k => wp_X7_cells k ((va_up s0.1 6 ((s0.1 6) + 4)), s0.2.1, s0.2.2.1, s0.2.2.2)) (xf_dt (dt_X7_cells ((va_up s0.1 6 ((s0.1 6) + 4)), s0.2.1, s0.2.2.1, s0.2.2.2))) (fun r_1 _ => (xf_b2 (F := fun k => wp_X7_readsNumber k ((va_up s0.1 6 ((s0.1 6) + 4)), s0.2.1, s0.2.2.1, s0.2.2.2) (0 : Int32) (r_1 - 1)) (fd_X7_readsNumber ((va_up s0.1 6 ((s0.1 6) + 4)), s0.2.1, s0.2.2.1, s0.2.2.2) (0 : Int32) (r_1 - 1)) (fun r_3 u_4 j_u_4 => have i_u_4 := j_u_4.trans rfl; (xf_n (xf_b1 (F := fun k => wp_X7_flaps k u_4 (u_4.1 8)) (xf_dt (dt_X7_flaps u_4 (u_4.1 8))) (fun r_6 _ => (xf_b2 (F := fun k => wp_X7_readsNumber k u_4 (1 : Int32) (r_6 - 1)) (fd_X7_readsNumber u_4 (1 : Int32) (r_6 - 1)) (fun r_8 u_9 j_u_9 => have i_u_9 := j_u_9.trans i_u_4; (xf_n (xf_b1 (F := fun k => wp_X7_wornOf k u_9 (u_4.1 8)) (xf_dt (dt_X7_wornOf u_9 (u_4.1 8))) (fun r_11 _ => (xf_b1 (F := fun k => wp_X7_isIn k r_11 (u_9.1 8)) (xf_dt (dt_X7_isIn r_11 (u_9.1 8))) (fun r_13 _ => (xf_p (xf_b1 (F := fun k => wp_X7_wears k u_9 (u_4.1 8) (u_9.1 8)) (fd_X7_wears u_9 (u_4.1 8) (u_9.1 8)) (fun u_17 j_u_17 => have i_u_17 := j_u_17.trans i_u_9; (xf_r i_u_17))) (xf_b2 (F := fun k => wp_X7_fails k u_9 (2 : Int32) (u_9.1 9)) (fd_X7_fails u_9 (2 : Int32) (u_9.1 9)) (fun r_18 u_19 j_u_19 => have i_u_19 := j_u_19.trans i_u_9; (xf_c (xf_r i_u_19))))))))) (xf_r i_u_9)))))) (xf_r i_u_4))))))
set_option maxHeartbeats 4000000 in
theorem fe_X7_readsRow_L62  {O : Type} {I : O → Prop} {c0 : (Nat → Int64)}  {G_post : Int32 → Md → (O → Prop) → Prop} {G_e116 : Md → Int32 → Int32 → Int32 → (O → Prop) → Prop} (h_post : ∀ (v0 : Int32) (v1 : Md), v1.2.2.1 3 = c0 → xf (G_post v0 v1) I) (h_e116 : ∀ (v0 : Md) (v1 : Int32) (v2 : Int32) (v3 : Int32), v0.2.2.1 3 = c0 → xf (G_e116 v0 v1 v2 v3) I) : ∀ (n : Nat) (t0 : Md) (z1 : Int32) (z2 : Int32) (z3 : Int32), t0.2.2.1 3 = c0 → xf (fun P : O → Prop => wp_X7_readsRow_L62 (fun v0 v1 => G_post v0 v1 P) (fun v0 v1 v2 v3 => G_e116 v0 v1 v2 v3 P) n t0 z1 z2 z3) I := by
  intro n
  induction n with
  | zero => exact fun _ _ _ _ _ => xf_F
  | succ n62 ih =>
    intro t0 z1 z2 z3 i_t0
    unfold wp_X7_readsRow_L62
    exact (xf_b1 (F := fun k => wp_X7_wide k t0) (xf_dt (dt_X7_wide t0)) (fun r_13 _ => (xf_p (h_e116 t0 z1 z2 z3 i_t0) (xf_b1 (F := fun k => wp_X7_wide k t0) (xf_dt (dt_X7_wide t0)) (fun r_16 _ => (xf_b1 (F := fun k => wp_X7_of k t0 ((r_16 * z1) + z3) (3 : Int32)) (xf_dt (dt_X7_of t0 ((r_16 * z1) + z3) (3 : Int32))) (fun r_18 _ => (xf_b1 (F := fun k => wp_X7_sets k t0 ((r_16 * z1) + z3) (1 : Int32) (Int32.toInt64 r_18)) (fd_X7_sets t0 ((r_16 * z1) + z3) (1 : Int32) (Int32.toInt64 r_18)) (fun u_21 j_u_21 => have i_u_21 := j_u_21.trans i_t0; (xf_b1 (F := fun k => wp_X7_of k u_21 ((r_16 * z1) + z3) (3 : Int32)) (xf_dt (dt_X7_of u_21 ((r_16 * z1) + z3) (3 : Int32))) (fun r_22 _ => (xf_b1 (F := fun k => wp_X7_sets k u_21 ((r_16 * z1) + z3) (2 : Int32) (Int32.toInt64 r_22)) (fd_X7_sets u_21 ((r_16 * z1) + z3) (2 : Int32) (Int32.toInt64 r_22)) (fun u_25 j_u_25 => have i_u_25 := j_u_25.trans i_u_21; (ih u_25 z1 z2 (z3 + 1) i_u_25))))))))))))))
set_option maxHeartbeats 4000000 in
theorem fd_X7_readsRow (s0 : Md) : xf (fun P : (Int32 × Md) → Prop => wp_X7_readsRow (fun a0 a1 => P (a0, a1)) s0) (fun o => o.2.2.2.1 3 = s0.2.2.1 3) := by
  unfold wp_X7_readsRow
  exact (xf_b1 (F := fun k => wp_X7_rows k ((va_up s0.1 6 ((s0.1 6) + 3)), s0.2.1, s0.2.2.1, s0.2.2.2)) (xf_dt (dt_X7_rows ((va_up s0.1 6 ((s0.1 6) + 3)), s0.2.1, s0.2.2.1, s0.2.2.2))) (fun r_1 _ => (xf_b2 (F := fun k => wp_X7_readsNumber k ((va_up s0.1 6 ((s0.1 6) + 3)), s0.2.1, s0.2.2.1, s0.2.2.2) (0 : Int32) (r_1 - 1)) (fd_X7_readsNumber ((va_up s0.1 6 ((s0.1 6) + 3)), s0.2.1, s0.2.2.1, s0.2.2.2) (0 : Int32) (r_1 - 1)) (fun r_3 u_4 j_u_4 => have i_u_4 := j_u_4.trans rfl; (xf_n (xf_b1 (F := fun k => wp_X7_wide k u_4) (xf_dt (dt_X7_wide u_4)) (fun r_6 _ => (xf_b2 (F := fun k => wp_X7_readsQuoted k u_4 (0 : Int32) r_6) (fd_X7_readsQuoted u_4 (0 : Int32) r_6) (fun r_8 u_9 j_u_9 => have i_u_9 := j_u_9.trans i_u_4; (xf_n (xf_b2 (F := fun k => wp_X7_wantsSigns k u_9 (u_4.1 8) (u_9.1 10) (u_9.1 11) (0 : Int32)) (fd_X7_wantsSigns u_9 (u_4.1 8) (u_9.1 10) (u_9.1 11) (0 : Int32)) (fun r_11 u_12 j_u_12 => have i_u_12 := j_u_12.trans i_u_9; (xf_x (fun n62 => (fe_X7_readsRow_L62  (fun v0 v1 i_v1 => (xf_r i_v1)) (fun t0 z1 z2 z3 i_t0 => (xf_r i_t0)) n62 u_12 (u_4.1 8) r_11 0 i_u_12))))) (xf_r i_u_9)))))) (xf_r i_u_4))))))
set_option maxHeartbeats 4000000 in
theorem fd_X7_readsLose (s0 : Md) : xf (fun P : (Int32 × Md) → Prop => wp_X7_readsLose (fun a0 a1 => P (a0, a1)) s0) (fun o => o.2.2.2.1 3 = s0.2.2.1 3) := by
  unfold wp_X7_readsLose
  exact (xf_b1 (F := fun k => wp_X7_cells k ((va_up s0.1 6 ((s0.1 6) + 4)), s0.2.1, s0.2.2.1, s0.2.2.2)) (xf_dt (dt_X7_cells ((va_up s0.1 6 ((s0.1 6) + 4)), s0.2.1, s0.2.2.1, s0.2.2.2))) (fun r_1 _ => (xf_b2 (F := fun k => wp_X7_readsNumber k ((va_up s0.1 6 ((s0.1 6) + 4)), s0.2.1, s0.2.2.1, s0.2.2.2) (0 : Int32) (r_1 - 1)) (fd_X7_readsNumber ((va_up s0.1 6 ((s0.1 6) + 4)), s0.2.1, s0.2.2.1, s0.2.2.2) (0 : Int32) (r_1 - 1)) (fun r_3 u_4 j_u_4 => have i_u_4 := j_u_4.trans rfl; (xf_n (xf_b2 (F := fun k => wp_X7_readsNumber k ((va_up u_4.1 12 (u_4.1 8)), u_4.2.1, u_4.2.2.1, u_4.2.2.2) (0 : Int32) (9 : Int32)) (fd_X7_readsNumber ((va_up u_4.1 12 (u_4.1 8)), u_4.2.1, u_4.2.2.1, u_4.2.2.2) (0 : Int32) (9 : Int32)) (fun r_6 u_7 j_u_7 => have i_u_7 := j_u_7.trans i_u_4; (xf_c (xf_r i_u_7)))) (xf_r i_u_4))))))
set_option maxHeartbeats 4000000 in
theorem fd_X7_readsPart (s0 : Md) : xf (fun P : (Int32 × Md) → Prop => wp_X7_readsPart (fun a0 a1 => P (a0, a1)) s0) (fun o => o.2.2.2.1 3 = s0.2.2.1 3) := by
  unfold wp_X7_readsPart
  exact (xf_b2 (F := fun k => wp_X7_isWord k s0 2) (fd_X7_isWord s0 2) (fun r_1 u_2 j_u_2 => have i_u_2 := j_u_2.trans rfl; (xf_p (xf_b2 (F := fun k => wp_X7_isWord k u_2 3) (fd_X7_isWord u_2 3) (fun r_4 u_5 j_u_5 => have i_u_5 := j_u_5.trans i_u_2; (xf_n (xf_b1 (F := fun k => wp_X7_drums k u_5) (xf_dt (dt_X7_drums u_5)) (fun r_7 _ => (xf_n (xf_b2 (F := fun k => wp_X7_isWord k u_5 3) (fd_X7_isWord u_5 3) (fun r_10 u_11 j_u_11 => have i_u_11 := j_u_11.trans i_u_5; (xf_p (xf_b2 (F := fun k => wp_X7_isWord k u_11 4) (fd_X7_isWord u_11 4) (fun r_13 u_14 j_u_14 => have i_u_14 := j_u_14.trans i_u_11; (xf_p (xf_b2 (F := fun k => wp_X7_isWord k u_14 5) (fd_X7_isWord u_14 5) (fun r_16 u_17 j_u_17 => have i_u_17 := j_u_17.trans i_u_14; (xf_p (xf_b2 (F := fun k => wp_X7_readsLose k u_17) (fd_X7_readsLose u_17) (fun r_19 u_20 j_u_20 => have i_u_20 := j_u_20.trans i_u_17; (xf_n (xf_b1 (F := fun k => wp_X7_sets k u_20 (u_20.1 12) (4 : Int32) (Int32.toInt64 (u_20.1 8))) (fd_X7_sets u_20 (u_20.1 12) (4 : Int32) (Int32.toInt64 (u_20.1 8))) (fun u_23 j_u_23 => have i_u_23 := j_u_23.trans i_u_20; (xf_r i_u_23))) (xf_r i_u_20)))) (xf_b2 (F := fun k => wp_X7_readsRow k u_17) (fd_X7_readsRow u_17) (fun r_24 u_25 j_u_25 => have i_u_25 := j_u_25.trans i_u_17; (xf_c (xf_r i_u_25))))))) (xf_b2 (F := fun k => wp_X7_readsWorn k u_14) (fd_X7_readsWorn u_14) (fun r_27 u_28 j_u_28 => have i_u_28 := j_u_28.trans i_u_14; (xf_c (xf_r i_u_28))))))) (xf_b2 (F := fun k => wp_X7_readsCells k u_11) (fd_X7_readsCells u_11) (fun r_30 u_31 j_u_31 => have i_u_31 := j_u_31.trans i_u_11; (xf_c (xf_r i_u_31))))))) (xf_b2 (F := fun k => wp_X7_fails k u_5 (3 : Int32) (u_5.1 6)) (fd_X7_fails u_5 (3 : Int32) (u_5.1 6)) (fun r_33 u_34 j_u_34 => have i_u_34 := j_u_34.trans i_u_5; (xf_c (xf_r i_u_34))))))) (xf_b2 (F := fun k => wp_X7_isWord k u_5 4) (fd_X7_isWord u_5 4) (fun r_36 u_37 j_u_37 => have i_u_37 := j_u_37.trans i_u_5; (xf_n (xf_b1 (F := fun k => wp_X7_drums k u_37) (xf_dt (dt_X7_drums u_37)) (fun r_39 _ => (xf_n (xf_b2 (F := fun k => wp_X7_isWord k u_37 3) (fd_X7_isWord u_37 3) (fun r_42 u_43 j_u_43 => have i_u_43 := j_u_43.trans i_u_37; (xf_p (xf_b2 (F := fun k => wp_X7_isWord k u_43 4) (fd_X7_isWord u_43 4) (fun r_45 u_46 j_u_46 => have i_u_46 := j_u_46.trans i_u_43; (xf_p (xf_b2 (F := fun k => wp_X7_isWord k u_46 5) (fd_X7_isWord u_46 5) (fun r_48 u_49 j_u_49 => have i_u_49 := j_u_49.trans i_u_46; (xf_p (xf_b2 (F := fun k => wp_X7_readsLose k u_49) (fd_X7_readsLose u_49) (fun r_51 u_52 j_u_52 => have i_u_52 := j_u_52.trans i_u_49; (xf_n (xf_b1 (F := fun k => wp_X7_sets k u_52 (u_52.1 12) (4 : Int32) (Int32.toInt64 (u_52.1 8))) (fd_X7_sets u_52 (u_52.1 12) (4 : Int32) (Int32.toInt64 (u_52.1 8))) (fun u_55 j_u_55 => have i_u_55 := j_u_55.trans i_u_52; (xf_r i_u_55))) (xf_r i_u_52)))) (xf_b2 (F := fun k => wp_X7_readsRow k u_49) (fd_X7_readsRow u_49) (fun r_56 u_57 j_u_57 => have i_u_57 := j_u_57.trans i_u_49; (xf_c (xf_r i_u_57))))))) (xf_b2 (F := fun k => wp_X7_readsWorn k u_46) (fd_X7_readsWorn u_46) (fun r_59 u_60 j_u_60 => have i_u_60 := j_u_60.trans i_u_46; (xf_c (xf_r i_u_60))))))) (xf_b2 (F := fun k => wp_X7_readsCells k u_43) (fd_X7_readsCells u_43) (fun r_62 u_63 j_u_63 => have i_u_63 := j_u_63.trans i_u_43; (xf_c (xf_r i_u_63))))))) (xf_b2 (F := fun k => wp_X7_fails k u_37 (3 : Int32) (u_37.1 6)) (fd_X7_fails u_37 (3 : Int32) (u_37.1 6)) (fun r_65 u_66 j_u_66 => have i_u_66 := j_u_66.trans i_u_37; (xf_c (xf_r i_u_66))))))) (xf_b2 (F := fun k => wp_X7_isWord k u_37 5) (fd_X7_isWord u_37 5) (fun r_68 u_69 j_u_69 => have i_u_69 := j_u_69.trans i_u_37; (xf_n (xf_b1 (F := fun k => wp_X7_drums k u_69) (xf_dt (dt_X7_drums u_69)) (fun r_71 _ => (xf_n (xf_b2 (F := fun k => wp_X7_isWord k u_69 3) (fd_X7_isWord u_69 3) (fun r_74 u_75 j_u_75 => have i_u_75 := j_u_75.trans i_u_69; (xf_p (xf_b2 (F := fun k => wp_X7_isWord k u_75 4) (fd_X7_isWord u_75 4) (fun r_77 u_78 j_u_78 => have i_u_78 := j_u_78.trans i_u_75; (xf_p (xf_b2 (F := fun k => wp_X7_isWord k u_78 5) (fd_X7_isWord u_78 5) (fun r_80 u_81 j_u_81 => have i_u_81 := j_u_81.trans i_u_78; (xf_p (xf_b2 (F := fun k => wp_X7_readsLose k u_81) (fd_X7_readsLose u_81) (fun r_83 u_84 j_u_84 => have i_u_84 := j_u_84.trans i_u_81; (xf_n (xf_b1 (F := fun k => wp_X7_sets k u_84 (u_84.1 12) (4 : Int32) (Int32.toInt64 (u_84.1 8))) (fd_X7_sets u_84 (u_84.1 12) (4 : Int32) (Int32.toInt64 (u_84.1 8))) (fun u_87 j_u_87 => have i_u_87 := j_u_87.trans i_u_84; (xf_r i_u_87))) (xf_r i_u_84)))) (xf_b2 (F := fun k => wp_X7_readsRow k u_81) (fd_X7_readsRow u_81) (fun r_88 u_89 j_u_89 => have i_u_89 := j_u_89.trans i_u_81; (xf_c (xf_r i_u_89))))))) (xf_b2 (F := fun k => wp_X7_readsWorn k u_78) (fd_X7_readsWorn u_78) (fun r_91 u_92 j_u_92 => have i_u_92 := j_u_92.trans i_u_78; (xf_c (xf_r i_u_92))))))) (xf_b2 (F := fun k => wp_X7_readsCells k u_75) (fd_X7_readsCells u_75) (fun r_94 u_95 j_u_95 => have i_u_95 := j_u_95.trans i_u_75; (xf_c (xf_r i_u_95))))))) (xf_b2 (F := fun k => wp_X7_fails k u_69 (3 : Int32) (u_69.1 6)) (fd_X7_fails u_69 (3 : Int32) (u_69.1 6)) (fun r_97 u_98 j_u_98 => have i_u_98 := j_u_98.trans i_u_69; (xf_c (xf_r i_u_98))))))) (xf_b2 (F := fun k => wp_X7_isWord k u_69 6) (fd_X7_isWord u_69 6) (fun r_100 u_101 j_u_101 => have i_u_101 := j_u_101.trans i_u_69; (xf_p (xf_b2 (F := fun k => wp_X7_fails k u_101 (1 : Int32) (u_101.1 6)) (fd_X7_fails u_101 (1 : Int32) (u_101.1 6)) (fun r_103 u_104 j_u_104 => have i_u_104 := j_u_104.trans i_u_101; (xf_c (xf_r i_u_104)))) (xf_b1 (F := fun k => wp_X7_drums k u_101) (xf_dt (dt_X7_drums u_101)) (fun r_106 _ => (xf_n (xf_b2 (F := fun k => wp_X7_isWord k u_101 3) (fd_X7_isWord u_101 3) (fun r_109 u_110 j_u_110 => have i_u_110 := j_u_110.trans i_u_101; (xf_p (xf_b2 (F := fun k => wp_X7_isWord k u_110 4) (fd_X7_isWord u_110 4) (fun r_112 u_113 j_u_113 => have i_u_113 := j_u_113.trans i_u_110; (xf_p (xf_b2 (F := fun k => wp_X7_isWord k u_113 5) (fd_X7_isWord u_113 5) (fun r_115 u_116 j_u_116 => have i_u_116 := j_u_116.trans i_u_113; (xf_p (xf_b2 (F := fun k => wp_X7_readsLose k u_116) (fd_X7_readsLose u_116) (fun r_118 u_119 j_u_119 => have i_u_119 := j_u_119.trans i_u_116; (xf_n (xf_b1 (F := fun k => wp_X7_sets k u_119 (u_119.1 12) (4 : Int32) (Int32.toInt64 (u_119.1 8))) (fd_X7_sets u_119 (u_119.1 12) (4 : Int32) (Int32.toInt64 (u_119.1 8))) (fun u_122 j_u_122 => have i_u_122 := j_u_122.trans i_u_119; (xf_r i_u_122))) (xf_r i_u_119)))) (xf_b2 (F := fun k => wp_X7_readsRow k u_116) (fd_X7_readsRow u_116) (fun r_123 u_124 j_u_124 => have i_u_124 := j_u_124.trans i_u_116; (xf_c (xf_r i_u_124))))))) (xf_b2 (F := fun k => wp_X7_readsWorn k u_113) (fd_X7_readsWorn u_113) (fun r_126 u_127 j_u_127 => have i_u_127 := j_u_127.trans i_u_113; (xf_c (xf_r i_u_127))))))) (xf_b2 (F := fun k => wp_X7_readsCells k u_110) (fd_X7_readsCells u_110) (fun r_129 u_130 j_u_130 => have i_u_130 := j_u_130.trans i_u_110; (xf_c (xf_r i_u_130))))))) (xf_b2 (F := fun k => wp_X7_fails k u_101 (3 : Int32) (u_101.1 6)) (fd_X7_fails u_101 (3 : Int32) (u_101.1 6)) (fun r_132 u_133 j_u_133 => have i_u_133 := j_u_133.trans i_u_101; (xf_c (xf_r i_u_133))))))))))))))))))) (xf_b2 (F := fun k => wp_X7_readsDrum k u_2) (fd_X7_readsDrum u_2) (fun r_135 u_136 j_u_136 => have i_u_136 := j_u_136.trans i_u_2; (xf_c (xf_r i_u_136)))))))
set_option maxHeartbeats 4000000 in
theorem fe_X7_readsBoard_L116  {O : Type} {I : O → Prop} {c0 : (Nat → Int64)}  {G_post : Int32 → Md → (O → Prop) → Prop} {G_e147 : Md → (O → Prop) → Prop} {G_e149 : Md → (O → Prop) → Prop} (h_post : ∀ (v0 : Int32) (v1 : Md), v1.2.2.1 3 = c0 → xf (G_post v0 v1) I) (h_e147 : ∀ (v0 : Md), v0.2.2.1 3 = c0 → xf (G_e147 v0) I) (h_e149 : ∀ (v0 : Md), v0.2.2.1 3 = c0 → xf (G_e149 v0) I) : ∀ (n : Nat) (t0 : Md), t0.2.2.1 3 = c0 → xf (fun P : O → Prop => wp_X7_readsBoard_L116 (fun v0 v1 => G_post v0 v1 P) (fun v0 => G_e147 v0 P) (fun v0 => G_e149 v0 P) n t0) I := by
  intro n
  induction n with
  | zero => exact fun _ _ => xf_F
  | succ n116 ih =>
    intro t0 i_t0
    unfold wp_X7_readsBoard_L116
    exact (xf_b2 (F := fun k => wp_X7_nextByte k t0) (fd_X7_nextByte t0) (fun r_20 u_21 j_u_21 => have i_u_21 := j_u_21.trans i_t0; (xf_n (h_e149 u_21 i_u_21) (xf_b2 (F := fun k => wp_X7_nextByte k ((va_up u_21.1 6 ((u_21.1 6) + 1)), u_21.2.1, u_21.2.2.1, u_21.2.2.2)) (fd_X7_nextByte ((va_up u_21.1 6 ((u_21.1 6) + 1)), u_21.2.1, u_21.2.2.1, u_21.2.2.2)) (fun r_23 u_24 j_u_24 => have i_u_24 := j_u_24.trans i_u_21; (xf_b2 (F := fun k => wp_X7_readsPart k u_24) (fd_X7_readsPart u_24) (fun r_25 u_26 j_u_26 => have i_u_26 := j_u_26.trans i_u_24; (xf_n (ih u_26 i_u_26) (h_e147 u_26 i_u_26)))))))))
set_option maxHeartbeats 4000000 in
theorem fe_X7_readsBoard_L116b  {O : Type} {I : O → Prop} {c0 : (Nat → Int64)}  {G_post : Int32 → Md → (O → Prop) → Prop} {G_e147 : Md → (O → Prop) → Prop} {G_e149 : Md → (O → Prop) → Prop} (h_post : ∀ (v0 : Int32) (v1 : Md), v1.2.2.1 3 = c0 → xf (G_post v0 v1) I) (h_e147 : ∀ (v0 : Md), v0.2.2.1 3 = c0 → xf (G_e147 v0) I) (h_e149 : ∀ (v0 : Md), v0.2.2.1 3 = c0 → xf (G_e149 v0) I) : ∀ (n : Nat) (t0 : Md), t0.2.2.1 3 = c0 → xf (fun P : O → Prop => wp_X7_readsBoard_L116b (fun v0 v1 => G_post v0 v1 P) (fun v0 => G_e147 v0 P) (fun v0 => G_e149 v0 P) n t0) I := by
  intro n
  induction n with
  | zero => exact fun _ _ => xf_F
  | succ n116 ih =>
    intro t0 i_t0
    unfold wp_X7_readsBoard_L116b
    exact (xf_b2 (F := fun k => wp_X7_nextByte k t0) (fd_X7_nextByte t0) (fun r_52 u_53 j_u_53 => have i_u_53 := j_u_53.trans i_t0; (xf_n (h_e149 u_53 i_u_53) (xf_b2 (F := fun k => wp_X7_nextByte k ((va_up u_53.1 6 ((u_53.1 6) + 1)), u_53.2.1, u_53.2.2.1, u_53.2.2.2)) (fd_X7_nextByte ((va_up u_53.1 6 ((u_53.1 6) + 1)), u_53.2.1, u_53.2.2.1, u_53.2.2.2)) (fun r_55 u_56 j_u_56 => have i_u_56 := j_u_56.trans i_u_53; (xf_b2 (F := fun k => wp_X7_readsPart k u_56) (fd_X7_readsPart u_56) (fun r_57 u_58 j_u_58 => have i_u_58 := j_u_58.trans i_u_56; (xf_n (ih u_58 i_u_58) (h_e147 u_58 i_u_58)))))))))
set_option maxHeartbeats 4000000 in
theorem fd_X7_readsBoard (s0 : Md) : xf (fun P : (Int32 × Md) → Prop => wp_X7_readsBoard (fun a0 a1 => P (a0, a1)) s0) (fun o => o.2.2.2.1 3 = s0.2.2.1 3) := by
  unfold wp_X7_readsBoard
  exact (xf_b2 (F := fun k => wp_X7_mustWord k ((va_up s0.1 6 0), s0.2.1, s0.2.2.1, s0.2.2.2) 0) (fd_X7_mustWord ((va_up s0.1 6 0), s0.2.1, s0.2.2.1, s0.2.2.2) 0) (fun r_1 u_2 j_u_2 => have i_u_2 := j_u_2.trans rfl; (xf_p (xf_r i_u_2) (xf_b2 (F := fun k => wp_X7_readsNumber k u_2 (1 : Int32) (6 : Int32)) (fd_X7_readsNumber u_2 (1 : Int32) (6 : Int32)) (fun r_4 u_5 j_u_5 => have i_u_5 := j_u_5.trans i_u_2; (xf_n (xf_b1 (F := fun k => wp_X7_rows k (u_5.1, u_5.2.1, (va_up u_5.2.2.1 0 (vp_updL (u_5.2.2.1 0) (Int32.toNatClampNeg 0) (Int32.toInt64 (u_5.1 8)))), u_5.2.2.2)) (xf_dt (dt_X7_rows (u_5.1, u_5.2.1, (va_up u_5.2.2.1 0 (vp_updL (u_5.2.2.1 0) (Int32.toNatClampNeg 0) (Int32.toInt64 (u_5.1 8)))), u_5.2.2.2))) (fun r_7 _ => (xf_c (xf_p (xf_b2 (F := fun k => wp_X7_readsNumber k (u_5.1, u_5.2.1, (va_up u_5.2.2.1 0 (vp_updL (u_5.2.2.1 0) (Int32.toNatClampNeg 0) (Int32.toInt64 (u_5.1 8)))), u_5.2.2.2) (1 : Int32) (10 : Int32)) (fd_X7_readsNumber (u_5.1, u_5.2.1, (va_up u_5.2.2.1 0 (vp_updL (u_5.2.2.1 0) (Int32.toNatClampNeg 0) (Int32.toInt64 (u_5.1 8)))), u_5.2.2.2) (1 : Int32) (10 : Int32)) (fun r_11 u_12 j_u_12 => have i_u_12 := j_u_12.trans i_u_5; (xf_n (xf_b2 (F := fun k => wp_X7_mustWord k (u_12.1, u_12.2.1, (va_up u_12.2.2.1 0 (vp_updL (u_12.2.2.1 0) (Int32.toNatClampNeg 1) (Int32.toInt64 (u_12.1 8)))), u_12.2.2.2) 1) (fd_X7_mustWord (u_12.1, u_12.2.1, (va_up u_12.2.2.1 0 (vp_updL (u_12.2.2.1 0) (Int32.toNatClampNeg 1) (Int32.toInt64 (u_12.1 8)))), u_12.2.2.2) 1) (fun r_14 u_15 j_u_15 => have i_u_15 := j_u_15.trans i_u_12; (xf_p (xf_r i_u_15) (xf_b2 (F := fun k => wp_X7_readsNumber k u_15 (1 : Int32) (99 : Int32)) (fd_X7_readsNumber u_15 (1 : Int32) (99 : Int32)) (fun r_17 u_18 j_u_18 => have i_u_18 := j_u_18.trans i_u_15; (xf_n (xf_x (fun n116 => (fe_X7_readsBoard_L116  (fun v0 v1 i_v1 => (xf_r i_v1)) (fun t0 i_t0 => (xf_r i_t0)) (fun t0 i_t0 => (xf_b2 (F := fun k => wp_X7_nextByte k t0) (fd_X7_nextByte t0) (fun r_28 u_29 j_u_29 => have i_u_29 := j_u_29.trans i_t0; (xf_p (xf_b1 (F := fun k => wp_X7_drums k u_29) (xf_dt (dt_X7_drums u_29)) (fun r_31 _ => (xf_p (xf_r i_u_29) (xf_b2 (F := fun k => wp_X7_fails k u_29 (4 : Int32) (u_29.1 5)) (fd_X7_fails u_29 (4 : Int32) (u_29.1 5)) (fun r_34 u_35 j_u_35 => have i_u_35 := j_u_35.trans i_u_29; (xf_p (xf_r i_u_35) (xf_r i_u_35))))))) (xf_b2 (F := fun k => wp_X7_fails k u_29 (1 : Int32) (u_29.1 6)) (fd_X7_fails u_29 (1 : Int32) (u_29.1 6)) (fun r_37 u_38 j_u_38 => have i_u_38 := j_u_38.trans i_u_29; (xf_c (xf_r i_u_38)))))))) n116 (u_18.1, u_18.2.1, (va_up u_18.2.2.1 0 (vp_updL (u_18.2.2.1 0) (Int32.toNatClampNeg 2) (Int32.toInt64 (u_18.1 8)))), u_18.2.2.2) i_u_18))) (xf_r i_u_18))))))) (xf_r i_u_12)))) (xf_b1 (F := fun k => wp_X7_rows k (u_5.1, u_5.2.1, (va_up u_5.2.2.1 0 (vp_updL (u_5.2.2.1 0) (Int32.toNatClampNeg 0) (Int32.toInt64 (u_5.1 8)))), u_5.2.2.2)) (xf_dt (dt_X7_rows (u_5.1, u_5.2.1, (va_up u_5.2.2.1 0 (vp_updL (u_5.2.2.1 0) (Int32.toNatClampNeg 0) (Int32.toInt64 (u_5.1 8)))), u_5.2.2.2))) (fun r_40 _ => (xf_c (xf_b2 (F := fun k => wp_X7_readsNumber k (u_5.1, u_5.2.1, (va_up u_5.2.2.1 0 (vp_updL (u_5.2.2.1 0) (Int32.toNatClampNeg 0) (Int32.toInt64 (u_5.1 8)))), u_5.2.2.2) (1 : Int32) (40 / r_40)) (fd_X7_readsNumber (u_5.1, u_5.2.1, (va_up u_5.2.2.1 0 (vp_updL (u_5.2.2.1 0) (Int32.toNatClampNeg 0) (Int32.toInt64 (u_5.1 8)))), u_5.2.2.2) (1 : Int32) (40 / r_40)) (fun r_43 u_44 j_u_44 => have i_u_44 := j_u_44.trans i_u_5; (xf_n (xf_b2 (F := fun k => wp_X7_mustWord k (u_44.1, u_44.2.1, (va_up u_44.2.2.1 0 (vp_updL (u_44.2.2.1 0) (Int32.toNatClampNeg 1) (Int32.toInt64 (u_44.1 8)))), u_44.2.2.2) 1) (fd_X7_mustWord (u_44.1, u_44.2.1, (va_up u_44.2.2.1 0 (vp_updL (u_44.2.2.1 0) (Int32.toNatClampNeg 1) (Int32.toInt64 (u_44.1 8)))), u_44.2.2.2) 1) (fun r_46 u_47 j_u_47 => have i_u_47 := j_u_47.trans i_u_44; (xf_p (xf_r i_u_47) (xf_b2 (F := fun k => wp_X7_readsNumber k u_47 (1 : Int32) (99 : Int32)) (fd_X7_readsNumber u_47 (1 : Int32) (99 : Int32)) (fun r_49 u_50 j_u_50 => have i_u_50 := j_u_50.trans i_u_47; (xf_n (xf_x (fun n116 => (fe_X7_readsBoard_L116b  (fun v0 v1 i_v1 => (xf_r i_v1)) (fun t0 i_t0 => (xf_r i_t0)) (fun t0 i_t0 => (xf_b2 (F := fun k => wp_X7_nextByte k t0) (fd_X7_nextByte t0) (fun r_60 u_61 j_u_61 => have i_u_61 := j_u_61.trans i_t0; (xf_p (xf_b1 (F := fun k => wp_X7_drums k u_61) (xf_dt (dt_X7_drums u_61)) (fun r_63 _ => (xf_p (xf_r i_u_61) (xf_b2 (F := fun k => wp_X7_fails k u_61 (4 : Int32) (u_61.1 5)) (fd_X7_fails u_61 (4 : Int32) (u_61.1 5)) (fun r_66 u_67 j_u_67 => have i_u_67 := j_u_67.trans i_u_61; (xf_p (xf_r i_u_67) (xf_r i_u_67))))))) (xf_b2 (F := fun k => wp_X7_fails k u_61 (1 : Int32) (u_61.1 6)) (fd_X7_fails u_61 (1 : Int32) (u_61.1 6)) (fun r_69 u_70 j_u_70 => have i_u_70 := j_u_70.trans i_u_61; (xf_c (xf_r i_u_70)))))))) n116 (u_50.1, u_50.2.1, (va_up u_50.2.2.1 0 (vp_updL (u_50.2.2.1 0) (Int32.toNatClampNeg 2) (Int32.toInt64 (u_50.1 8)))), u_50.2.2.2) i_u_50))) (xf_r i_u_50))))))) (xf_r i_u_44))))))))))) (xf_r i_u_5)))))))
