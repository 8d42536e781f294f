theorem wq_X7_goesTimes_3_L90 {post : Int32 → Md → Prop} {e141 : Md → Int32 → Int32 → Int32 → Int32 → Int32 → Prop} {D N R W G : Int} {A : Nat → Int32} (h104019 : 0 < D) (ke141 : ∀ (t0 : Md) (z1 : Int32) (z2 : Int32) (z3 : Int32) (z4 : Int32) (z5 : Int32), mb (N) (R) (W) (D) t0 → ie [1, 2, 6, 7, 8, 9, 10, 11, 12, 13, 14] t0.1 A → (t0.1 14).toInt = 2 → (z4).toInt = G → 0 ≤ G ∧ G ≤ (t0.1 6).toInt ∧ (t0.1 6).toInt ≤ N → 0 ≤ (z5).toInt ∧ (z5).toInt ≤ 21 ∧ (z2).toInt ≤ 20 → e141 t0 z1 z2 z3 z4 z5) (k : ∀ (r : Int32) (u : Md), mb (N) (R) (W) (D) u → ie [1, 2, 6, 7, 8, 9, 10, 11, 12, 13, 14] u.1 A → (r).toInt = 0 → G ≤ (u.1 6).toInt ∧ (u.1 6).toInt ≤ N → post r u) : ∀ (n : Nat) (t0 : Md) (z1 : Int32) (z2 : Int32) (z3 : Int32) (z4 : Int32) (z5 : Int32), mb (N) (R) (W) (D) t0 → ie [1, 2, 6, 7, 8, 9, 10, 11, 12, 13, 14] t0.1 A → (t0.1 14).toInt = 2 → (z4).toInt = G → 0 ≤ G ∧ G ≤ (t0.1 6).toInt ∧ (t0.1 6).toInt ≤ N → 0 ≤ (z5).toInt ∧ (z5).toInt ≤ 21 ∧ (z2).toInt ≤ 20 → 21 - (z5).toInt < (n : Int) → wp_X7_goesTimes_3_L90 post e141 n t0 z1 z2 z3 z4 z5 := by
  intro n
  induction n with
  | zero =>
    intro t0 z1 z2 z3 z4 z5 i104020 i104021 i104022 i104023 i104024 i104025 i104026
    have := i104020.1
    have := i104020.2.1
    have := i104020.2.2.1
    have := i104020.2.2.2.1
    exfalso
    omega
  | succ n ih =>
    intro t0 z1 z2 z3 z4 z5 i104020 i104021 i104022 i104023 i104024 i104025 i104026
    unfold wp_X7_goesTimes_3_L90
    have := i104020.1
    have := i104020.2.1
    have := i104020.2.2.1
    have := i104020.2.2.2.1
    refine ⟨fun c104027 => ?_, fun c104028 => ?_⟩
    · replace c104027 := q_eq c104027
      rw [li_0] at c104027
      refine ⟨fun c104029 => ?_, fun c104030 => ?_⟩
      · replace c104029 := q_eq c104029
        rw [li_0] at c104029
        have : (t0.1 5).toInt = (A 5).toInt := ie_i i104021 5 (by decide)
        have p104031 : (t0.1 5).toInt = N := by omega
        have : (t0.1 0).toInt = (A 0).toInt := ie_i i104021 0 (by decide)
        have p104032 : 0 ≤ (t0.1 0).toInt ∧ (t0.1 0).toInt ≤ 10 := by omega
        have p104033 : 0 ≤ N ∧ N ≤ 400 := by omega
        have p104034 : 0 ≤ R ∧ R ≤ 6 ∧ 0 ≤ W ∧ W ≤ 10 ∧ 0 ≤ R * W ∧ R * W ≤ 40 ∧ 0 ≤ D ∧ D ≤ 4 ∧ (D ≤ 0 ∨ 1 ≤ R) ∧ (1 ≤ R ∨ R * W = 0) := by omega
        have B104035 : mb (N) (R) (W) (D) ((va_up t0.1 6 z4), t0.2.1, t0.2.2.1, t0.2.2.2) := ⟨p104031, p104032, p104033, p104034, i104020.2.2.2.2.1, i104020.2.2.2.2.2.1, i104020.2.2.2.2.2.2.1, i104020.2.2.2.2.2.2.2⟩
        have p104036 : 0 < D := by omega
        have p104037 : 0 ≤ (z4).toInt ∧ (z4).toInt ≤ N := by omega
        have p104038 : (t0.1 14).toInt = 2 := by omega
        refine wq_X7_goesAll_2 B104035 p104036 p104037 p104038 (fun r_14 u_15 q104039 q104040 q104041 q104042 q104043 => ?_)
        have := q104039.1
        have := q104039.2.1
        replace q104041 : (r_14).toInt = 0 ∨ (r_14).toInt = 1 := q104041
        replace q104042 : (z4).toInt ≤ (u_15.1 6).toInt ∧ (u_15.1 6).toInt ≤ N := q104042
        replace q104043 : (r_14).toInt = 0 ∨ (u_15.1 14).toInt = (t0.1 14).toInt := q104043
        refine ⟨fun c104044 => ?_, fun c104045 => ?_⟩
        · replace c104044 := q_neq c104044
          rw [li_0] at c104044
          have p104046 : ie [1, 2, 6, 7, 8, 9, 10, 11, 12, 13, 14] u_15.1 A := (ie_tr q104040 (by decide) (ie_up (ie_tr i104021 (by decide) (ie_refl _ _)) (by decide)))
          have p104047 : (u_15.1 14).toInt = 2 := by omega
          have p104048 : (z4).toInt = G := by omega
          have p104049 : 0 ≤ G ∧ G ≤ (u_15.1 6).toInt ∧ (u_15.1 6).toInt ≤ N := by omega
          have e104050 := tq_addr li_1 z5
          try rw [Int.emod_eq_of_lt (show 0 ≤ (z5).toInt + 1 + 2147483648 by omega) (show (z5).toInt + 1 + 2147483648 < 4294967296 by omega)] at e104050
          have p104051 : 0 ≤ (z5 + 1).toInt ∧ (z5 + 1).toInt ≤ 21 ∧ (z2).toInt ≤ 20 := by omega
          have p104052 : 21 - (z5 + 1).toInt < ((n : Nat) : Int) := by (omega)
          exact ih _ _ _ _ _ _ q104039 p104046 p104047 p104048 p104049 p104051 p104052
        · replace c104045 := q_eq c104045
          rw [li_0] at c104045
          have p104053 : ie [1, 2, 6, 7, 8, 9, 10, 11, 12, 13, 14] u_15.1 A := (ie_tr q104040 (by decide) (ie_up (ie_tr i104021 (by decide) (ie_refl _ _)) (by decide)))
          have p104054 : (0 : Int32).toInt = 0 := by (have := li_0; omega)
          have p104055 : G ≤ (u_15.1 6).toInt ∧ (u_15.1 6).toInt ≤ N := by omega
          exact k _ _ q104039 p104053 p104054 p104055
      · replace c104030 := q_neq c104030
        rw [li_0] at c104030
        refine ⟨fun c104056 => ?_, fun c104057 => ?_⟩
        · replace c104056 := q_le c104056
          have : (t0.1 5).toInt = (A 5).toInt := ie_i i104021 5 (by decide)
          have p104058 : (t0.1 5).toInt = N := by omega
          have : (t0.1 0).toInt = (A 0).toInt := ie_i i104021 0 (by decide)
          have p104059 : 0 ≤ (t0.1 0).toInt ∧ (t0.1 0).toInt ≤ 10 := by omega
          have p104060 : 0 ≤ N ∧ N ≤ 400 := by omega
          have p104061 : 0 ≤ R ∧ R ≤ 6 ∧ 0 ≤ W ∧ W ≤ 10 ∧ 0 ≤ R * W ∧ R * W ≤ 40 ∧ 0 ≤ D ∧ D ≤ 4 ∧ (D ≤ 0 ∨ 1 ≤ R) ∧ (1 ≤ R ∨ R * W = 0) := by omega
          have B104062 : mb (N) (R) (W) (D) ((va_up t0.1 6 z4), t0.2.1, t0.2.2.1, t0.2.2.2) := ⟨p104058, p104059, p104060, p104061, i104020.2.2.2.2.1, i104020.2.2.2.2.2.1, i104020.2.2.2.2.2.2.1, i104020.2.2.2.2.2.2.2⟩
          have p104063 : 0 < D := by omega
          have p104064 : 0 ≤ (z4).toInt ∧ (z4).toInt ≤ N := by omega
          have p104065 : (t0.1 14).toInt = 2 := by omega
          refine wq_X7_goesAll_2 B104062 p104063 p104064 p104065 (fun r_18 u_19 q104066 q104067 q104068 q104069 q104070 => ?_)
          have := q104066.1
          have := q104066.2.1
          replace q104068 : (r_18).toInt = 0 ∨ (r_18).toInt = 1 := q104068
          replace q104069 : (z4).toInt ≤ (u_19.1 6).toInt ∧ (u_19.1 6).toInt ≤ N := q104069
          replace q104070 : (r_18).toInt = 0 ∨ (u_19.1 14).toInt = (t0.1 14).toInt := q104070
          refine ⟨fun c104071 => ?_, fun c104072 => ?_⟩
          · replace c104071 := q_neq c104071
            rw [li_0] at c104071
            have p104073 : ie [1, 2, 6, 7, 8, 9, 10, 11, 12, 13, 14] u_19.1 A := (ie_tr q104067 (by decide) (ie_up (ie_tr i104021 (by decide) (ie_refl _ _)) (by decide)))
            have p104074 : (u_19.1 14).toInt = 2 := by omega
            have p104075 : (z4).toInt = G := by omega
            have p104076 : 0 ≤ G ∧ G ≤ (u_19.1 6).toInt ∧ (u_19.1 6).toInt ≤ N := by omega
            have e104077 := tq_addr li_1 z5
            try rw [Int.emod_eq_of_lt (show 0 ≤ (z5).toInt + 1 + 2147483648 by omega) (show (z5).toInt + 1 + 2147483648 < 4294967296 by omega)] at e104077
            have p104078 : 0 ≤ (z5 + 1).toInt ∧ (z5 + 1).toInt ≤ 21 ∧ (z2).toInt ≤ 20 := by omega
            have p104079 : 21 - (z5 + 1).toInt < ((n : Nat) : Int) := by (omega)
            exact ih _ _ _ _ _ _ q104066 p104073 p104074 p104075 p104076 p104078 p104079
          · replace c104072 := q_eq c104072
            rw [li_0] at c104072
            have p104080 : ie [1, 2, 6, 7, 8, 9, 10, 11, 12, 13, 14] u_19.1 A := (ie_tr q104067 (by decide) (ie_up (ie_tr i104021 (by decide) (ie_refl _ _)) (by decide)))
            have p104081 : (0 : Int32).toInt = 0 := by (have := li_0; omega)
            have p104082 : G ≤ (u_19.1 6).toInt ∧ (u_19.1 6).toInt ≤ N := by omega
            exact k _ _ q104066 p104080 p104081 p104082
        · replace c104057 := q_nle c104057
          have : (t0.1 5).toInt = (A 5).toInt := ie_i i104021 5 (by decide)
          have p104083 : (t0.1 5).toInt = N := by omega
          have : (t0.1 0).toInt = (A 0).toInt := ie_i i104021 0 (by decide)
          have p104084 : 0 ≤ (t0.1 0).toInt ∧ (t0.1 0).toInt ≤ 10 := by omega
          have p104085 : 0 ≤ N ∧ N ≤ 400 := by omega
          have p104086 : 0 ≤ R ∧ R ≤ 6 ∧ 0 ≤ W ∧ W ≤ 10 ∧ 0 ≤ R * W ∧ R * W ≤ 40 ∧ 0 ≤ D ∧ D ≤ 4 ∧ (D ≤ 0 ∨ 1 ≤ R) ∧ (1 ≤ R ∨ R * W = 0) := by omega
          have B104087 : mb (N) (R) (W) (D) ((va_up t0.1 6 z4), t0.2.1, t0.2.2.1, t0.2.2.2) := ⟨p104083, p104084, p104085, p104086, i104020.2.2.2.2.1, i104020.2.2.2.2.2.1, i104020.2.2.2.2.2.2.1, i104020.2.2.2.2.2.2.2⟩
          have p104088 : 0 < D := by omega
          have p104089 : 0 ≤ (z4).toInt ∧ (z4).toInt ≤ N := by omega
          have p104090 : (t0.1 14).toInt = 2 := by omega
          refine wq_X7_goesAll_2 B104087 p104088 p104089 p104090 (fun r_21 u_22 q104091 q104092 q104093 q104094 q104095 => ?_)
          have := q104091.1
          have := q104091.2.1
          replace q104093 : (r_21).toInt = 0 ∨ (r_21).toInt = 1 := q104093
          replace q104094 : (z4).toInt ≤ (u_22.1 6).toInt ∧ (u_22.1 6).toInt ≤ N := q104094
          replace q104095 : (r_21).toInt = 0 ∨ (u_22.1 14).toInt = (t0.1 14).toInt := q104095
          refine ⟨fun c104096 => ?_, fun c104097 => ?_⟩
          · replace c104096 := q_neq c104096
            rw [li_0] at c104096
            have p104098 : ie [1, 2, 6, 7, 8, 9, 10, 11, 12, 13, 14] u_22.1 A := (ie_tr q104092 (by decide) (ie_up (ie_tr i104021 (by decide) (ie_refl _ _)) (by decide)))
            have p104099 : (u_22.1 14).toInt = 2 := by omega
            have p104100 : (z4).toInt = G := by omega
            have p104101 : 0 ≤ G ∧ G ≤ (u_22.1 6).toInt ∧ (u_22.1 6).toInt ≤ N := by omega
            have e104102 := tq_addr li_1 z5
            try rw [Int.emod_eq_of_lt (show 0 ≤ (z5).toInt + 1 + 2147483648 by omega) (show (z5).toInt + 1 + 2147483648 < 4294967296 by omega)] at e104102
            have p104103 : 0 ≤ (z5 + 1).toInt ∧ (z5 + 1).toInt ≤ 21 ∧ (z2).toInt ≤ 20 := by omega
            have p104104 : 21 - (z5 + 1).toInt < ((n : Nat) : Int) := by (omega)
            exact ih _ _ _ _ _ _ q104091 p104098 p104099 p104100 p104101 p104103 p104104
          · replace c104097 := q_eq c104097
            rw [li_0] at c104097
            have p104105 : ie [1, 2, 6, 7, 8, 9, 10, 11, 12, 13, 14] u_22.1 A := (ie_tr q104092 (by decide) (ie_up (ie_tr i104021 (by decide) (ie_refl _ _)) (by decide)))
            have p104106 : (0 : Int32).toInt = 0 := by (have := li_0; omega)
            have p104107 : G ≤ (u_22.1 6).toInt ∧ (u_22.1 6).toInt ≤ N := by omega
            exact k _ _ q104091 p104105 p104106 p104107
    · replace c104028 := q_neq c104028
      rw [li_0] at c104028
      refine ⟨fun c104108 => ?_, fun c104109 => ?_⟩
      · replace c104108 := q_le c104108
        have p104110 : ie [1, 2, 6, 7, 8, 9, 10, 11, 12, 13, 14] t0.1 A := (ie_tr i104021 (by decide) (ie_refl _ _))
        have p104111 : (t0.1 14).toInt = 2 := by omega
        have p104112 : (z4).toInt = G := by omega
        have p104113 : 0 ≤ G ∧ G ≤ (t0.1 6).toInt ∧ (t0.1 6).toInt ≤ N := by omega
        have p104114 : 0 ≤ (z5).toInt ∧ (z5).toInt ≤ 21 ∧ (z2).toInt ≤ 20 := by omega
        exact ke141 _ _ _ _ _ _ i104020 p104110 p104111 p104112 p104113 p104114
      · replace c104109 := q_nle c104109
        refine ⟨fun c104115 => ?_, fun c104116 => ?_⟩
        · replace c104115 := q_eq c104115
          rw [li_0] at c104115
          have p104117 : ie [1, 2, 6, 7, 8, 9, 10, 11, 12, 13, 14] t0.1 A := (ie_tr i104021 (by decide) (ie_refl _ _))
          have p104118 : (t0.1 14).toInt = 2 := by omega
          have p104119 : (z4).toInt = G := by omega
          have p104120 : 0 ≤ G ∧ G ≤ (t0.1 6).toInt ∧ (t0.1 6).toInt ≤ N := by omega
          have p104121 : 0 ≤ (z5).toInt ∧ (z5).toInt ≤ 21 ∧ (z2).toInt ≤ 20 := by omega
          exact ke141 _ _ _ _ _ _ i104020 p104117 p104118 p104119 p104120 p104121
        · replace c104116 := q_neq c104116
          rw [li_0] at c104116
          refine ⟨fun c104122 => ?_, fun c104123 => ?_⟩
          · replace c104122 := q_eq c104122
            rw [li_0] at c104122
            have : (t0.1 5).toInt = (A 5).toInt := ie_i i104021 5 (by decide)
            have p104124 : (t0.1 5).toInt = N := by omega
            have : (t0.1 0).toInt = (A 0).toInt := ie_i i104021 0 (by decide)
            have p104125 : 0 ≤ (t0.1 0).toInt ∧ (t0.1 0).toInt ≤ 10 := by omega
            have p104126 : 0 ≤ N ∧ N ≤ 400 := by omega
            have p104127 : 0 ≤ R ∧ R ≤ 6 ∧ 0 ≤ W ∧ W ≤ 10 ∧ 0 ≤ R * W ∧ R * W ≤ 40 ∧ 0 ≤ D ∧ D ≤ 4 ∧ (D ≤ 0 ∨ 1 ≤ R) ∧ (1 ≤ R ∨ R * W = 0) := by omega
            have B104128 : mb (N) (R) (W) (D) ((va_up t0.1 6 z4), t0.2.1, t0.2.2.1, t0.2.2.2) := ⟨p104124, p104125, p104126, p104127, i104020.2.2.2.2.1, i104020.2.2.2.2.2.1, i104020.2.2.2.2.2.2.1, i104020.2.2.2.2.2.2.2⟩
            have p104129 : 0 < D := by omega
            have p104130 : 0 ≤ (z4).toInt ∧ (z4).toInt ≤ N := by omega
            have p104131 : (t0.1 14).toInt = 2 := by omega
            refine wq_X7_goesAll_2 B104128 p104129 p104130 p104131 (fun r_27 u_28 q104132 q104133 q104134 q104135 q104136 => ?_)
            have := q104132.1
            have := q104132.2.1
            replace q104134 : (r_27).toInt = 0 ∨ (r_27).toInt = 1 := q104134
            replace q104135 : (z4).toInt ≤ (u_28.1 6).toInt ∧ (u_28.1 6).toInt ≤ N := q104135
            replace q104136 : (r_27).toInt = 0 ∨ (u_28.1 14).toInt = (t0.1 14).toInt := q104136
            refine ⟨fun c104137 => ?_, fun c104138 => ?_⟩
            · replace c104137 := q_neq c104137
              rw [li_0] at c104137
              have p104139 : ie [1, 2, 6, 7, 8, 9, 10, 11, 12, 13, 14] u_28.1 A := (ie_tr q104133 (by decide) (ie_up (ie_tr i104021 (by decide) (ie_refl _ _)) (by decide)))
              have p104140 : (u_28.1 14).toInt = 2 := by omega
              have p104141 : (z4).toInt = G := by omega
              have p104142 : 0 ≤ G ∧ G ≤ (u_28.1 6).toInt ∧ (u_28.1 6).toInt ≤ N := by omega
              have e104143 := tq_addr li_1 z5
              try rw [Int.emod_eq_of_lt (show 0 ≤ (z5).toInt + 1 + 2147483648 by omega) (show (z5).toInt + 1 + 2147483648 < 4294967296 by omega)] at e104143
              have p104144 : 0 ≤ (z5 + 1).toInt ∧ (z5 + 1).toInt ≤ 21 ∧ (z2).toInt ≤ 20 := by omega
              have p104145 : 21 - (z5 + 1).toInt < ((n : Nat) : Int) := by (omega)
              exact ih _ _ _ _ _ _ q104132 p104139 p104140 p104141 p104142 p104144 p104145
            · replace c104138 := q_eq c104138
              rw [li_0] at c104138
              have p104146 : ie [1, 2, 6, 7, 8, 9, 10, 11, 12, 13, 14] u_28.1 A := (ie_tr q104133 (by decide) (ie_up (ie_tr i104021 (by decide) (ie_refl _ _)) (by decide)))
              have p104147 : (0 : Int32).toInt = 0 := by (have := li_0; omega)
              have p104148 : G ≤ (u_28.1 6).toInt ∧ (u_28.1 6).toInt ≤ N := by omega
              exact k _ _ q104132 p104146 p104147 p104148
          · replace c104123 := q_neq c104123
            rw [li_0] at c104123
            refine ⟨fun c104149 => ?_, fun c104150 => ?_⟩
            · replace c104149 := q_le c104149
              have : (t0.1 5).toInt = (A 5).toInt := ie_i i104021 5 (by decide)
              have p104151 : (t0.1 5).toInt = N := by omega
              have : (t0.1 0).toInt = (A 0).toInt := ie_i i104021 0 (by decide)
              have p104152 : 0 ≤ (t0.1 0).toInt ∧ (t0.1 0).toInt ≤ 10 := by omega
              have p104153 : 0 ≤ N ∧ N ≤ 400 := by omega
              have p104154 : 0 ≤ R ∧ R ≤ 6 ∧ 0 ≤ W ∧ W ≤ 10 ∧ 0 ≤ R * W ∧ R * W ≤ 40 ∧ 0 ≤ D ∧ D ≤ 4 ∧ (D ≤ 0 ∨ 1 ≤ R) ∧ (1 ≤ R ∨ R * W = 0) := by omega
              have B104155 : mb (N) (R) (W) (D) ((va_up t0.1 6 z4), t0.2.1, t0.2.2.1, t0.2.2.2) := ⟨p104151, p104152, p104153, p104154, i104020.2.2.2.2.1, i104020.2.2.2.2.2.1, i104020.2.2.2.2.2.2.1, i104020.2.2.2.2.2.2.2⟩
              have p104156 : 0 < D := by omega
              have p104157 : 0 ≤ (z4).toInt ∧ (z4).toInt ≤ N := by omega
              have p104158 : (t0.1 14).toInt = 2 := by omega
              refine wq_X7_goesAll_2 B104155 p104156 p104157 p104158 (fun r_31 u_32 q104159 q104160 q104161 q104162 q104163 => ?_)
              have := q104159.1
              have := q104159.2.1
              replace q104161 : (r_31).toInt = 0 ∨ (r_31).toInt = 1 := q104161
              replace q104162 : (z4).toInt ≤ (u_32.1 6).toInt ∧ (u_32.1 6).toInt ≤ N := q104162
              replace q104163 : (r_31).toInt = 0 ∨ (u_32.1 14).toInt = (t0.1 14).toInt := q104163
              refine ⟨fun c104164 => ?_, fun c104165 => ?_⟩
              · replace c104164 := q_neq c104164
                rw [li_0] at c104164
                have p104166 : ie [1, 2, 6, 7, 8, 9, 10, 11, 12, 13, 14] u_32.1 A := (ie_tr q104160 (by decide) (ie_up (ie_tr i104021 (by decide) (ie_refl _ _)) (by decide)))
                have p104167 : (u_32.1 14).toInt = 2 := by omega
                have p104168 : (z4).toInt = G := by omega
                have p104169 : 0 ≤ G ∧ G ≤ (u_32.1 6).toInt ∧ (u_32.1 6).toInt ≤ N := by omega
                have e104170 := tq_addr li_1 z5
                try rw [Int.emod_eq_of_lt (show 0 ≤ (z5).toInt + 1 + 2147483648 by omega) (show (z5).toInt + 1 + 2147483648 < 4294967296 by omega)] at e104170
                have p104171 : 0 ≤ (z5 + 1).toInt ∧ (z5 + 1).toInt ≤ 21 ∧ (z2).toInt ≤ 20 := by omega
                have p104172 : 21 - (z5 + 1).toInt < ((n : Nat) : Int) := by (omega)
                exact ih _ _ _ _ _ _ q104159 p104166 p104167 p104168 p104169 p104171 p104172
              · replace c104165 := q_eq c104165
                rw [li_0] at c104165
                have p104173 : ie [1, 2, 6, 7, 8, 9, 10, 11, 12, 13, 14] u_32.1 A := (ie_tr q104160 (by decide) (ie_up (ie_tr i104021 (by decide) (ie_refl _ _)) (by decide)))
                have p104174 : (0 : Int32).toInt = 0 := by (have := li_0; omega)
                have p104175 : G ≤ (u_32.1 6).toInt ∧ (u_32.1 6).toInt ≤ N := by omega
                exact k _ _ q104159 p104173 p104174 p104175
            · replace c104150 := q_nle c104150
              have : (t0.1 5).toInt = (A 5).toInt := ie_i i104021 5 (by decide)
              have p104176 : (t0.1 5).toInt = N := by omega
              have : (t0.1 0).toInt = (A 0).toInt := ie_i i104021 0 (by decide)
              have p104177 : 0 ≤ (t0.1 0).toInt ∧ (t0.1 0).toInt ≤ 10 := by omega
              have p104178 : 0 ≤ N ∧ N ≤ 400 := by omega
              have p104179 : 0 ≤ R ∧ R ≤ 6 ∧ 0 ≤ W ∧ W ≤ 10 ∧ 0 ≤ R * W ∧ R * W ≤ 40 ∧ 0 ≤ D ∧ D ≤ 4 ∧ (D ≤ 0 ∨ 1 ≤ R) ∧ (1 ≤ R ∨ R * W = 0) := by omega
              have B104180 : mb (N) (R) (W) (D) ((va_up t0.1 6 z4), t0.2.1, t0.2.2.1, t0.2.2.2) := ⟨p104176, p104177, p104178, p104179, i104020.2.2.2.2.1, i104020.2.2.2.2.2.1, i104020.2.2.2.2.2.2.1, i104020.2.2.2.2.2.2.2⟩
              have p104181 : 0 < D := by omega
              have p104182 : 0 ≤ (z4).toInt ∧ (z4).toInt ≤ N := by omega
              have p104183 : (t0.1 14).toInt = 2 := by omega
              refine wq_X7_goesAll_2 B104180 p104181 p104182 p104183 (fun r_34 u_35 q104184 q104185 q104186 q104187 q104188 => ?_)
              have := q104184.1
              have := q104184.2.1
              replace q104186 : (r_34).toInt = 0 ∨ (r_34).toInt = 1 := q104186
              replace q104187 : (z4).toInt ≤ (u_35.1 6).toInt ∧ (u_35.1 6).toInt ≤ N := q104187
              replace q104188 : (r_34).toInt = 0 ∨ (u_35.1 14).toInt = (t0.1 14).toInt := q104188
              refine ⟨fun c104189 => ?_, fun c104190 => ?_⟩
              · replace c104189 := q_neq c104189
                rw [li_0] at c104189
                have p104191 : ie [1, 2, 6, 7, 8, 9, 10, 11, 12, 13, 14] u_35.1 A := (ie_tr q104185 (by decide) (ie_up (ie_tr i104021 (by decide) (ie_refl _ _)) (by decide)))
                have p104192 : (u_35.1 14).toInt = 2 := by omega
                have p104193 : (z4).toInt = G := by omega
                have p104194 : 0 ≤ G ∧ G ≤ (u_35.1 6).toInt ∧ (u_35.1 6).toInt ≤ N := by omega
                have e104195 := tq_addr li_1 z5
                try rw [Int.emod_eq_of_lt (show 0 ≤ (z5).toInt + 1 + 2147483648 by omega) (show (z5).toInt + 1 + 2147483648 < 4294967296 by omega)] at e104195
                have p104196 : 0 ≤ (z5 + 1).toInt ∧ (z5 + 1).toInt ≤ 21 ∧ (z2).toInt ≤ 20 := by omega
                have p104197 : 21 - (z5 + 1).toInt < ((n : Nat) : Int) := by (omega)
                exact ih _ _ _ _ _ _ q104184 p104191 p104192 p104193 p104194 p104196 p104197
              · replace c104190 := q_eq c104190
                rw [li_0] at c104190
                have p104198 : ie [1, 2, 6, 7, 8, 9, 10, 11, 12, 13, 14] u_35.1 A := (ie_tr q104185 (by decide) (ie_up (ie_tr i104021 (by decide) (ie_refl _ _)) (by decide)))
                have p104199 : (0 : Int32).toInt = 0 := by (have := li_0; omega)
                have p104200 : G ≤ (u_35.1 6).toInt ∧ (u_35.1 6).toInt ≤ N := by omega
                exact k _ _ q104184 p104198 p104199 p104200
theorem wq_X7_goesTimes_3_L90b {post : Int32 → Md → Prop} {e141 : Md → Int32 → Int32 → Int32 → Int32 → Int32 → Prop} {D N R W G : Int} {A : Nat → Int32} (h104201 : 0 < D) (ke141 : ∀ (t0 : Md) (z1 : Int32) (z2 : Int32) (z3 : Int32) (z4 : Int32) (z5 : Int32), mb (N) (R) (W) (D) t0 → ie [1, 2, 6, 7, 8, 9, 10, 11, 12, 13, 14] t0.1 A → (t0.1 14).toInt = 2 → (z4).toInt = G → 0 ≤ G ∧ G ≤ (t0.1 6).toInt ∧ (t0.1 6).toInt ≤ N → 0 ≤ (z5).toInt ∧ (z5).toInt ≤ 21 ∧ (z2).toInt ≤ 20 → e141 t0 z1 z2 z3 z4 z5) (k : ∀ (r : Int32) (u : Md), mb (N) (R) (W) (D) u → ie [1, 2, 6, 7, 8, 9, 10, 11, 12, 13, 14] u.1 A → (r).toInt = 0 → G ≤ (u.1 6).toInt ∧ (u.1 6).toInt ≤ N → post r u) : ∀ (n : Nat) (t0 : Md) (z1 : Int32) (z2 : Int32) (z3 : Int32) (z4 : Int32) (z5 : Int32), mb (N) (R) (W) (D) t0 → ie [1, 2, 6, 7, 8, 9, 10, 11, 12, 13, 14] t0.1 A → (t0.1 14).toInt = 2 → (z4).toInt = G → 0 ≤ G ∧ G ≤ (t0.1 6).toInt ∧ (t0.1 6).toInt ≤ N → 0 ≤ (z5).toInt ∧ (z5).toInt ≤ 21 ∧ (z2).toInt ≤ 20 → 21 - (z5).toInt < (n : Int) → wp_X7_goesTimes_3_L90b post e141 n t0 z1 z2 z3 z4 z5 := by
  intro n
  induction n with
  | zero =>
    intro t0 z1 z2 z3 z4 z5 i104202 i104203 i104204 i104205 i104206 i104207 i104208
    have := i104202.1
    have := i104202.2.1
    have := i104202.2.2.1
    have := i104202.2.2.2.1
    exfalso
    omega
  | succ n ih =>
    intro t0 z1 z2 z3 z4 z5 i104202 i104203 i104204 i104205 i104206 i104207 i104208
    unfold wp_X7_goesTimes_3_L90b
    have := i104202.1
    have := i104202.2.1
    have := i104202.2.2.1
    have := i104202.2.2.2.1
    refine ⟨fun c104209 => ?_, fun c104210 => ?_⟩
    · replace c104209 := q_eq c104209
      rw [li_0] at c104209
      refine ⟨fun c104211 => ?_, fun c104212 => ?_⟩
      · replace c104211 := q_eq c104211
        rw [li_0] at c104211
        have : (t0.1 5).toInt = (A 5).toInt := ie_i i104203 5 (by decide)
        have p104213 : (t0.1 5).toInt = N := by omega
        have : (t0.1 0).toInt = (A 0).toInt := ie_i i104203 0 (by decide)
        have p104214 : 0 ≤ (t0.1 0).toInt ∧ (t0.1 0).toInt ≤ 10 := by omega
        have p104215 : 0 ≤ N ∧ N ≤ 400 := by omega
        have p104216 : 0 ≤ R ∧ R ≤ 6 ∧ 0 ≤ W ∧ W ≤ 10 ∧ 0 ≤ R * W ∧ R * W ≤ 40 ∧ 0 ≤ D ∧ D ≤ 4 ∧ (D ≤ 0 ∨ 1 ≤ R) ∧ (1 ≤ R ∨ R * W = 0) := by omega
        have B104217 : mb (N) (R) (W) (D) ((va_up t0.1 6 z4), t0.2.1, t0.2.2.1, t0.2.2.2) := ⟨p104213, p104214, p104215, p104216, i104202.2.2.2.2.1, i104202.2.2.2.2.2.1, i104202.2.2.2.2.2.2.1, i104202.2.2.2.2.2.2.2⟩
        have p104218 : 0 < D := by omega
        have p104219 : 0 ≤ (z4).toInt ∧ (z4).toInt ≤ N := by omega
        have p104220 : (t0.1 14).toInt = 2 := by omega
        refine wq_X7_goesAll_2 B104217 p104218 p104219 p104220 (fun r_48 u_49 q104221 q104222 q104223 q104224 q104225 => ?_)
        have := q104221.1
        have := q104221.2.1
        replace q104223 : (r_48).toInt = 0 ∨ (r_48).toInt = 1 := q104223
        replace q104224 : (z4).toInt ≤ (u_49.1 6).toInt ∧ (u_49.1 6).toInt ≤ N := q104224
        replace q104225 : (r_48).toInt = 0 ∨ (u_49.1 14).toInt = (t0.1 14).toInt := q104225
        refine ⟨fun c104226 => ?_, fun c104227 => ?_⟩
        · replace c104226 := q_neq c104226
          rw [li_0] at c104226
          have p104228 : ie [1, 2, 6, 7, 8, 9, 10, 11, 12, 13, 14] u_49.1 A := (ie_tr q104222 (by decide) (ie_up (ie_tr i104203 (by decide) (ie_refl _ _)) (by decide)))
          have p104229 : (u_49.1 14).toInt = 2 := by omega
          have p104230 : (z4).toInt = G := by omega
          have p104231 : 0 ≤ G ∧ G ≤ (u_49.1 6).toInt ∧ (u_49.1 6).toInt ≤ N := by omega
          have e104232 := tq_addr li_1 z5
          try rw [Int.emod_eq_of_lt (show 0 ≤ (z5).toInt + 1 + 2147483648 by omega) (show (z5).toInt + 1 + 2147483648 < 4294967296 by omega)] at e104232
          have p104233 : 0 ≤ (z5 + 1).toInt ∧ (z5 + 1).toInt ≤ 21 ∧ (z2).toInt ≤ 20 := by omega
          have p104234 : 21 - (z5 + 1).toInt < ((n : Nat) : Int) := by (omega)
          exact ih _ _ _ _ _ _ q104221 p104228 p104229 p104230 p104231 p104233 p104234
        · replace c104227 := q_eq c104227
          rw [li_0] at c104227
          have p104235 : ie [1, 2, 6, 7, 8, 9, 10, 11, 12, 13, 14] u_49.1 A := (ie_tr q104222 (by decide) (ie_up (ie_tr i104203 (by decide) (ie_refl _ _)) (by decide)))
          have p104236 : (0 : Int32).toInt = 0 := by (have := li_0; omega)
          have p104237 : G ≤ (u_49.1 6).toInt ∧ (u_49.1 6).toInt ≤ N := by omega
          exact k _ _ q104221 p104235 p104236 p104237
      · replace c104212 := q_neq c104212
        rw [li_0] at c104212
        refine ⟨fun c104238 => ?_, fun c104239 => ?_⟩
        · replace c104238 := q_le c104238
          have : (t0.1 5).toInt = (A 5).toInt := ie_i i104203 5 (by decide)
          have p104240 : (t0.1 5).toInt = N := by omega
          have : (t0.1 0).toInt = (A 0).toInt := ie_i i104203 0 (by decide)
          have p104241 : 0 ≤ (t0.1 0).toInt ∧ (t0.1 0).toInt ≤ 10 := by omega
          have p104242 : 0 ≤ N ∧ N ≤ 400 := by omega
          have p104243 : 0 ≤ R ∧ R ≤ 6 ∧ 0 ≤ W ∧ W ≤ 10 ∧ 0 ≤ R * W ∧ R * W ≤ 40 ∧ 0 ≤ D ∧ D ≤ 4 ∧ (D ≤ 0 ∨ 1 ≤ R) ∧ (1 ≤ R ∨ R * W = 0) := by omega
          have B104244 : mb (N) (R) (W) (D) ((va_up t0.1 6 z4), t0.2.1, t0.2.2.1, t0.2.2.2) := ⟨p104240, p104241, p104242, p104243, i104202.2.2.2.2.1, i104202.2.2.2.2.2.1, i104202.2.2.2.2.2.2.1, i104202.2.2.2.2.2.2.2⟩
          have p104245 : 0 < D := by omega
          have p104246 : 0 ≤ (z4).toInt ∧ (z4).toInt ≤ N := by omega
          have p104247 : (t0.1 14).toInt = 2 := by omega
          refine wq_X7_goesAll_2 B104244 p104245 p104246 p104247 (fun r_52 u_53 q104248 q104249 q104250 q104251 q104252 => ?_)
          have := q104248.1
          have := q104248.2.1
          replace q104250 : (r_52).toInt = 0 ∨ (r_52).toInt = 1 := q104250
          replace q104251 : (z4).toInt ≤ (u_53.1 6).toInt ∧ (u_53.1 6).toInt ≤ N := q104251
          replace q104252 : (r_52).toInt = 0 ∨ (u_53.1 14).toInt = (t0.1 14).toInt := q104252
          refine ⟨fun c104253 => ?_, fun c104254 => ?_⟩
          · replace c104253 := q_neq c104253
            rw [li_0] at c104253
            have p104255 : ie [1, 2, 6, 7, 8, 9, 10, 11, 12, 13, 14] u_53.1 A := (ie_tr q104249 (by decide) (ie_up (ie_tr i104203 (by decide) (ie_refl _ _)) (by decide)))
            have p104256 : (u_53.1 14).toInt = 2 := by omega
            have p104257 : (z4).toInt = G := by omega
            have p104258 : 0 ≤ G ∧ G ≤ (u_53.1 6).toInt ∧ (u_53.1 6).toInt ≤ N := by omega
            have e104259 := tq_addr li_1 z5
            try rw [Int.emod_eq_of_lt (show 0 ≤ (z5).toInt + 1 + 2147483648 by omega) (show (z5).toInt + 1 + 2147483648 < 4294967296 by omega)] at e104259
            have p104260 : 0 ≤ (z5 + 1).toInt ∧ (z5 + 1).toInt ≤ 21 ∧ (z2).toInt ≤ 20 := by omega
            have p104261 : 21 - (z5 + 1).toInt < ((n : Nat) : Int) := by (omega)
            exact ih _ _ _ _ _ _ q104248 p104255 p104256 p104257 p104258 p104260 p104261
          · replace c104254 := q_eq c104254
            rw [li_0] at c104254
            have p104262 : ie [1, 2, 6, 7, 8, 9, 10, 11, 12, 13, 14] u_53.1 A := (ie_tr q104249 (by decide) (ie_up (ie_tr i104203 (by decide) (ie_refl _ _)) (by decide)))
            have p104263 : (0 : Int32).toInt = 0 := by (have := li_0; omega)
            have p104264 : G ≤ (u_53.1 6).toInt ∧ (u_53.1 6).toInt ≤ N := by omega
            exact k _ _ q104248 p104262 p104263 p104264
        · replace c104239 := q_nle c104239
          have : (t0.1 5).toInt = (A 5).toInt := ie_i i104203 5 (by decide)
          have p104265 : (t0.1 5).toInt = N := by omega
          have : (t0.1 0).toInt = (A 0).toInt := ie_i i104203 0 (by decide)
          have p104266 : 0 ≤ (t0.1 0).toInt ∧ (t0.1 0).toInt ≤ 10 := by omega
          have p104267 : 0 ≤ N ∧ N ≤ 400 := by omega
          have p104268 : 0 ≤ R ∧ R ≤ 6 ∧ 0 ≤ W ∧ W ≤ 10 ∧ 0 ≤ R * W ∧ R * W ≤ 40 ∧ 0 ≤ D ∧ D ≤ 4 ∧ (D ≤ 0 ∨ 1 ≤ R) ∧ (1 ≤ R ∨ R * W = 0) := by omega
          have B104269 : mb (N) (R) (W) (D) ((va_up t0.1 6 z4), t0.2.1, t0.2.2.1, t0.2.2.2) := ⟨p104265, p104266, p104267, p104268, i104202.2.2.2.2.1, i104202.2.2.2.2.2.1, i104202.2.2.2.2.2.2.1, i104202.2.2.2.2.2.2.2⟩
          have p104270 : 0 < D := by omega
          have p104271 : 0 ≤ (z4).toInt ∧ (z4).toInt ≤ N := by omega
          have p104272 : (t0.1 14).toInt = 2 := by omega
          refine wq_X7_goesAll_2 B104269 p104270 p104271 p104272 (fun r_55 u_56 q104273 q104274 q104275 q104276 q104277 => ?_)
          have := q104273.1
          have := q104273.2.1
          replace q104275 : (r_55).toInt = 0 ∨ (r_55).toInt = 1 := q104275
          replace q104276 : (z4).toInt ≤ (u_56.1 6).toInt ∧ (u_56.1 6).toInt ≤ N := q104276
          replace q104277 : (r_55).toInt = 0 ∨ (u_56.1 14).toInt = (t0.1 14).toInt := q104277
          refine ⟨fun c104278 => ?_, fun c104279 => ?_⟩
          · replace c104278 := q_neq c104278
            rw [li_0] at c104278
            have p104280 : ie [1, 2, 6, 7, 8, 9, 10, 11, 12, 13, 14] u_56.1 A := (ie_tr q104274 (by decide) (ie_up (ie_tr i104203 (by decide) (ie_refl _ _)) (by decide)))
            have p104281 : (u_56.1 14).toInt = 2 := by omega
            have p104282 : (z4).toInt = G := by omega
            have p104283 : 0 ≤ G ∧ G ≤ (u_56.1 6).toInt ∧ (u_56.1 6).toInt ≤ N := by omega
            have e104284 := tq_addr li_1 z5
            try rw [Int.emod_eq_of_lt (show 0 ≤ (z5).toInt + 1 + 2147483648 by omega) (show (z5).toInt + 1 + 2147483648 < 4294967296 by omega)] at e104284
            have p104285 : 0 ≤ (z5 + 1).toInt ∧ (z5 + 1).toInt ≤ 21 ∧ (z2).toInt ≤ 20 := by omega
            have p104286 : 21 - (z5 + 1).toInt < ((n : Nat) : Int) := by (omega)
            exact ih _ _ _ _ _ _ q104273 p104280 p104281 p104282 p104283 p104285 p104286
          · replace c104279 := q_eq c104279
            rw [li_0] at c104279
            have p104287 : ie [1, 2, 6, 7, 8, 9, 10, 11, 12, 13, 14] u_56.1 A := (ie_tr q104274 (by decide) (ie_up (ie_tr i104203 (by decide) (ie_refl _ _)) (by decide)))
            have p104288 : (0 : Int32).toInt = 0 := by (have := li_0; omega)
            have p104289 : G ≤ (u_56.1 6).toInt ∧ (u_56.1 6).toInt ≤ N := by omega
            exact k _ _ q104273 p104287 p104288 p104289
    · replace c104210 := q_neq c104210
      rw [li_0] at c104210
      refine ⟨fun c104290 => ?_, fun c104291 => ?_⟩
      · replace c104290 := q_le c104290
        have p104292 : ie [1, 2, 6, 7, 8, 9, 10, 11, 12, 13, 14] t0.1 A := (ie_tr i104203 (by decide) (ie_refl _ _))
        have p104293 : (t0.1 14).toInt = 2 := by omega
        have p104294 : (z4).toInt = G := by omega
        have p104295 : 0 ≤ G ∧ G ≤ (t0.1 6).toInt ∧ (t0.1 6).toInt ≤ N := by omega
        have p104296 : 0 ≤ (z5).toInt ∧ (z5).toInt ≤ 21 ∧ (z2).toInt ≤ 20 := by omega
        exact ke141 _ _ _ _ _ _ i104202 p104292 p104293 p104294 p104295 p104296
      · replace c104291 := q_nle c104291
        refine ⟨fun c104297 => ?_, fun c104298 => ?_⟩
        · replace c104297 := q_eq c104297
          rw [li_0] at c104297
          have p104299 : ie [1, 2, 6, 7, 8, 9, 10, 11, 12, 13, 14] t0.1 A := (ie_tr i104203 (by decide) (ie_refl _ _))
          have p104300 : (t0.1 14).toInt = 2 := by omega
          have p104301 : (z4).toInt = G := by omega
          have p104302 : 0 ≤ G ∧ G ≤ (t0.1 6).toInt ∧ (t0.1 6).toInt ≤ N := by omega
          have p104303 : 0 ≤ (z5).toInt ∧ (z5).toInt ≤ 21 ∧ (z2).toInt ≤ 20 := by omega
          exact ke141 _ _ _ _ _ _ i104202 p104299 p104300 p104301 p104302 p104303
        · replace c104298 := q_neq c104298
          rw [li_0] at c104298
          refine ⟨fun c104304 => ?_, fun c104305 => ?_⟩
          · replace c104304 := q_eq c104304
            rw [li_0] at c104304
            have : (t0.1 5).toInt = (A 5).toInt := ie_i i104203 5 (by decide)
            have p104306 : (t0.1 5).toInt = N := by omega
            have : (t0.1 0).toInt = (A 0).toInt := ie_i i104203 0 (by decide)
            have p104307 : 0 ≤ (t0.1 0).toInt ∧ (t0.1 0).toInt ≤ 10 := by omega
            have p104308 : 0 ≤ N ∧ N ≤ 400 := by omega
            have p104309 : 0 ≤ R ∧ R ≤ 6 ∧ 0 ≤ W ∧ W ≤ 10 ∧ 0 ≤ R * W ∧ R * W ≤ 40 ∧ 0 ≤ D ∧ D ≤ 4 ∧ (D ≤ 0 ∨ 1 ≤ R) ∧ (1 ≤ R ∨ R * W = 0) := by omega
            have B104310 : mb (N) (R) (W) (D) ((va_up t0.1 6 z4), t0.2.1, t0.2.2.1, t0.2.2.2) := ⟨p104306, p104307, p104308, p104309, i104202.2.2.2.2.1, i104202.2.2.2.2.2.1, i104202.2.2.2.2.2.2.1, i104202.2.2.2.2.2.2.2⟩
            have p104311 : 0 < D := by omega
            have p104312 : 0 ≤ (z4).toInt ∧ (z4).toInt ≤ N := by omega
            have p104313 : (t0.1 14).toInt = 2 := by omega
            refine wq_X7_goesAll_2 B104310 p104311 p104312 p104313 (fun r_61 u_62 q104314 q104315 q104316 q104317 q104318 => ?_)
            have := q104314.1
            have := q104314.2.1
            replace q104316 : (r_61).toInt = 0 ∨ (r_61).toInt = 1 := q104316
            replace q104317 : (z4).toInt ≤ (u_62.1 6).toInt ∧ (u_62.1 6).toInt ≤ N := q104317
            replace q104318 : (r_61).toInt = 0 ∨ (u_62.1 14).toInt = (t0.1 14).toInt := q104318
            refine ⟨fun c104319 => ?_, fun c104320 => ?_⟩
            · replace c104319 := q_neq c104319
              rw [li_0] at c104319
              have p104321 : ie [1, 2, 6, 7, 8, 9, 10, 11, 12, 13, 14] u_62.1 A := (ie_tr q104315 (by decide) (ie_up (ie_tr i104203 (by decide) (ie_refl _ _)) (by decide)))
              have p104322 : (u_62.1 14).toInt = 2 := by omega
              have p104323 : (z4).toInt = G := by omega
              have p104324 : 0 ≤ G ∧ G ≤ (u_62.1 6).toInt ∧ (u_62.1 6).toInt ≤ N := by omega
              have e104325 := tq_addr li_1 z5
              try rw [Int.emod_eq_of_lt (show 0 ≤ (z5).toInt + 1 + 2147483648 by omega) (show (z5).toInt + 1 + 2147483648 < 4294967296 by omega)] at e104325
              have p104326 : 0 ≤ (z5 + 1).toInt ∧ (z5 + 1).toInt ≤ 21 ∧ (z2).toInt ≤ 20 := by omega
              have p104327 : 21 - (z5 + 1).toInt < ((n : Nat) : Int) := by (omega)
              exact ih _ _ _ _ _ _ q104314 p104321 p104322 p104323 p104324 p104326 p104327
            · replace c104320 := q_eq c104320
              rw [li_0] at c104320
              have p104328 : ie [1, 2, 6, 7, 8, 9, 10, 11, 12, 13, 14] u_62.1 A := (ie_tr q104315 (by decide) (ie_up (ie_tr i104203 (by decide) (ie_refl _ _)) (by decide)))
              have p104329 : (0 : Int32).toInt = 0 := by (have := li_0; omega)
              have p104330 : G ≤ (u_62.1 6).toInt ∧ (u_62.1 6).toInt ≤ N := by omega
              exact k _ _ q104314 p104328 p104329 p104330
          · replace c104305 := q_neq c104305
            rw [li_0] at c104305
            refine ⟨fun c104331 => ?_, fun c104332 => ?_⟩
            · replace c104331 := q_le c104331
              have : (t0.1 5).toInt = (A 5).toInt := ie_i i104203 5 (by decide)
              have p104333 : (t0.1 5).toInt = N := by omega
              have : (t0.1 0).toInt = (A 0).toInt := ie_i i104203 0 (by decide)
              have p104334 : 0 ≤ (t0.1 0).toInt ∧ (t0.1 0).toInt ≤ 10 := by omega
              have p104335 : 0 ≤ N ∧ N ≤ 400 := by omega
              have p104336 : 0 ≤ R ∧ R ≤ 6 ∧ 0 ≤ W ∧ W ≤ 10 ∧ 0 ≤ R * W ∧ R * W ≤ 40 ∧ 0 ≤ D ∧ D ≤ 4 ∧ (D ≤ 0 ∨ 1 ≤ R) ∧ (1 ≤ R ∨ R * W = 0) := by omega
              have B104337 : mb (N) (R) (W) (D) ((va_up t0.1 6 z4), t0.2.1, t0.2.2.1, t0.2.2.2) := ⟨p104333, p104334, p104335, p104336, i104202.2.2.2.2.1, i104202.2.2.2.2.2.1, i104202.2.2.2.2.2.2.1, i104202.2.2.2.2.2.2.2⟩
              have p104338 : 0 < D := by omega
              have p104339 : 0 ≤ (z4).toInt ∧ (z4).toInt ≤ N := by omega
              have p104340 : (t0.1 14).toInt = 2 := by omega
              refine wq_X7_goesAll_2 B104337 p104338 p104339 p104340 (fun r_65 u_66 q104341 q104342 q104343 q104344 q104345 => ?_)
              have := q104341.1
              have := q104341.2.1
              replace q104343 : (r_65).toInt = 0 ∨ (r_65).toInt = 1 := q104343
              replace q104344 : (z4).toInt ≤ (u_66.1 6).toInt ∧ (u_66.1 6).toInt ≤ N := q104344
              replace q104345 : (r_65).toInt = 0 ∨ (u_66.1 14).toInt = (t0.1 14).toInt := q104345
              refine ⟨fun c104346 => ?_, fun c104347 => ?_⟩
              · replace c104346 := q_neq c104346
                rw [li_0] at c104346
                have p104348 : ie [1, 2, 6, 7, 8, 9, 10, 11, 12, 13, 14] u_66.1 A := (ie_tr q104342 (by decide) (ie_up (ie_tr i104203 (by decide) (ie_refl _ _)) (by decide)))
                have p104349 : (u_66.1 14).toInt = 2 := by omega
                have p104350 : (z4).toInt = G := by omega
                have p104351 : 0 ≤ G ∧ G ≤ (u_66.1 6).toInt ∧ (u_66.1 6).toInt ≤ N := by omega
                have e104352 := tq_addr li_1 z5
                try rw [Int.emod_eq_of_lt (show 0 ≤ (z5).toInt + 1 + 2147483648 by omega) (show (z5).toInt + 1 + 2147483648 < 4294967296 by omega)] at e104352
                have p104353 : 0 ≤ (z5 + 1).toInt ∧ (z5 + 1).toInt ≤ 21 ∧ (z2).toInt ≤ 20 := by omega
                have p104354 : 21 - (z5 + 1).toInt < ((n : Nat) : Int) := by (omega)
                exact ih _ _ _ _ _ _ q104341 p104348 p104349 p104350 p104351 p104353 p104354
              · replace c104347 := q_eq c104347
                rw [li_0] at c104347
                have p104355 : ie [1, 2, 6, 7, 8, 9, 10, 11, 12, 13, 14] u_66.1 A := (ie_tr q104342 (by decide) (ie_up (ie_tr i104203 (by decide) (ie_refl _ _)) (by decide)))
                have p104356 : (0 : Int32).toInt = 0 := by (have := li_0; omega)
                have p104357 : G ≤ (u_66.1 6).toInt ∧ (u_66.1 6).toInt ≤ N := by omega
                exact k _ _ q104341 p104355 p104356 p104357
            · replace c104332 := q_nle c104332
              have : (t0.1 5).toInt = (A 5).toInt := ie_i i104203 5 (by decide)
              have p104358 : (t0.1 5).toInt = N := by omega
              have : (t0.1 0).toInt = (A 0).toInt := ie_i i104203 0 (by decide)
              have p104359 : 0 ≤ (t0.1 0).toInt ∧ (t0.1 0).toInt ≤ 10 := by omega
              have p104360 : 0 ≤ N ∧ N ≤ 400 := by omega
              have p104361 : 0 ≤ R ∧ R ≤ 6 ∧ 0 ≤ W ∧ W ≤ 10 ∧ 0 ≤ R * W ∧ R * W ≤ 40 ∧ 0 ≤ D ∧ D ≤ 4 ∧ (D ≤ 0 ∨ 1 ≤ R) ∧ (1 ≤ R ∨ R * W = 0) := by omega
              have B104362 : mb (N) (R) (W) (D) ((va_up t0.1 6 z4), t0.2.1, t0.2.2.1, t0.2.2.2) := ⟨p104358, p104359, p104360, p104361, i104202.2.2.2.2.1, i104202.2.2.2.2.2.1, i104202.2.2.2.2.2.2.1, i104202.2.2.2.2.2.2.2⟩
              have p104363 : 0 < D := by omega
              have p104364 : 0 ≤ (z4).toInt ∧ (z4).toInt ≤ N := by omega
              have p104365 : (t0.1 14).toInt = 2 := by omega
              refine wq_X7_goesAll_2 B104362 p104363 p104364 p104365 (fun r_68 u_69 q104366 q104367 q104368 q104369 q104370 => ?_)
              have := q104366.1
              have := q104366.2.1
              replace q104368 : (r_68).toInt = 0 ∨ (r_68).toInt = 1 := q104368
              replace q104369 : (z4).toInt ≤ (u_69.1 6).toInt ∧ (u_69.1 6).toInt ≤ N := q104369
              replace q104370 : (r_68).toInt = 0 ∨ (u_69.1 14).toInt = (t0.1 14).toInt := q104370
              refine ⟨fun c104371 => ?_, fun c104372 => ?_⟩
              · replace c104371 := q_neq c104371
                rw [li_0] at c104371
                have p104373 : ie [1, 2, 6, 7, 8, 9, 10, 11, 12, 13, 14] u_69.1 A := (ie_tr q104367 (by decide) (ie_up (ie_tr i104203 (by decide) (ie_refl _ _)) (by decide)))
                have p104374 : (u_69.1 14).toInt = 2 := by omega
                have p104375 : (z4).toInt = G := by omega
                have p104376 : 0 ≤ G ∧ G ≤ (u_69.1 6).toInt ∧ (u_69.1 6).toInt ≤ N := by omega
                have e104377 := tq_addr li_1 z5
                try rw [Int.emod_eq_of_lt (show 0 ≤ (z5).toInt + 1 + 2147483648 by omega) (show (z5).toInt + 1 + 2147483648 < 4294967296 by omega)] at e104377
                have p104378 : 0 ≤ (z5 + 1).toInt ∧ (z5 + 1).toInt ≤ 21 ∧ (z2).toInt ≤ 20 := by omega
                have p104379 : 21 - (z5 + 1).toInt < ((n : Nat) : Int) := by (omega)
                exact ih _ _ _ _ _ _ q104366 p104373 p104374 p104375 p104376 p104378 p104379
              · replace c104372 := q_eq c104372
                rw [li_0] at c104372
                have p104380 : ie [1, 2, 6, 7, 8, 9, 10, 11, 12, 13, 14] u_69.1 A := (ie_tr q104367 (by decide) (ie_up (ie_tr i104203 (by decide) (ie_refl _ _)) (by decide)))
                have p104381 : (0 : Int32).toInt = 0 := by (have := li_0; omega)
                have p104382 : G ≤ (u_69.1 6).toInt ∧ (u_69.1 6).toInt ≤ N := by omega
                exact k _ _ q104366 p104380 p104381 p104382
theorem wq_X7_goesTimes_3 {post : Int32 → Md → Prop} {s0 : Md} {x1 : Int32} {N R W D : Int} (h104383 : mb (N) (R) (W) (D) s0) (h104384 : 0 < D) (h104385 : 0 ≤ (s0.1 6).toInt ∧ (s0.1 6).toInt + 5 ≤ N) (h104386 : (s0.1 14).toInt = 1) (k : ∀ (r : Int32) (u : Md), mb (N) (R) (W) (D) u → ie [1, 2, 6, 7, 8, 9, 10, 11, 12, 13, 14] u.1 s0.1 → (r).toInt = 0 ∨ (r).toInt = 1 → (s0.1 6).toInt ≤ (u.1 6).toInt ∧ (u.1 6).toInt ≤ N → (r).toInt = 0 ∨ (u.1 14).toInt = (s0.1 14).toInt → post r u) : wp_X7_goesTimes_3 post s0 x1 := by
  unfold wp_X7_goesTimes_3
  have := h104383.1
  have := h104383.2.1
  have := h104383.2.2.1
  have := h104383.2.2.2.1
  have p104387 : (s0.1 5).toInt = N := by omega
  have p104388 : 0 ≤ (s0.1 0).toInt ∧ (s0.1 0).toInt ≤ 10 := by omega
  have p104389 : 0 ≤ N ∧ N ≤ 400 := by omega
  have p104390 : 0 ≤ R ∧ R ≤ 6 ∧ 0 ≤ W ∧ W ≤ 10 ∧ 0 ≤ R * W ∧ R * W ≤ 40 ∧ 0 ≤ D ∧ D ≤ 4 ∧ (D ≤ 0 ∨ 1 ≤ R) ∧ (1 ≤ R ∨ R * W = 0) := by omega
  have B104391 : mb (N) (R) (W) (D) ((va_up s0.1 6 ((s0.1 6) + 5)), s0.2.1, s0.2.2.1, s0.2.2.2) := ⟨p104387, p104388, p104389, p104390, h104383.2.2.2.2.1, h104383.2.2.2.2.2.1, h104383.2.2.2.2.2.2.1, h104383.2.2.2.2.2.2.2⟩
  have e104392 := tq_addr li_5 (s0.1 6)
  try rw [Int.emod_eq_of_lt (show 0 ≤ (s0.1 6).toInt + 5 + 2147483648 by omega) (show (s0.1 6).toInt + 5 + 2147483648 < 4294967296 by omega)] at e104392
  have p104393 : 0 ≤ ((s0.1 6) + 5).toInt ∧ ((s0.1 6) + 5).toInt ≤ N := by omega
  refine wq_X7_readsNumber B104391 p104393 (fun r_1 u_2 q104394 q104395 q104396 q104397 q104398 q104399 => ?_)
  have := q104394.1
  have := q104394.2.1
  replace q104396 : (r_1).toInt = 0 ∨ (r_1).toInt = 1 := q104396
  replace q104397 : ((s0.1 6) + 5).toInt ≤ (u_2.1 6).toInt ∧ (u_2.1 6).toInt ≤ N := q104397
  replace q104398 : (r_1).toInt = 0 ∨ (((0 : Int32)).toInt ≤ (u_2.1 8).toInt ∧ (u_2.1 8).toInt ≤ ((20 : Int32)).toInt) := q104398
  try simp only [li_0, li_20] at q104398
  refine ⟨fun c104400 => ?_, fun c104401 => ?_⟩
  · replace c104400 := q_neq c104400
    rw [li_0] at c104400
    have p104402 : 0 ≤ (u_2.1 6).toInt ∧ (u_2.1 6).toInt ≤ N := by omega
    refine wq_X7_nextByte q104394 p104402 (fun r_4 u_5 q104403 q104404 q104405 q104406 q104407 q104408 => ?_)
    have := q104403.1
    have := q104403.2.1
    refine ⟨fun c104409 => ?_, fun c104410 => ?_⟩
    · replace c104409 := q_neq c104409
      rw [li_40] at c104409
      have p104411 : 0 ≤ (u_5.1 6).toInt ∧ (u_5.1 6).toInt ≤ N := by omega
      have p104412 : ¬ ((40 : Int32)).toInt = -1 := by (have := li_40; omega)
      refine wq_X7_mustByte q104403 p104411 p104412 (fun r_7 u_8 q104413 q104414 q104415 q104416 q104417 q104418 => ?_)
      have := q104413.1
      have := q104413.2.1
      refine ⟨fun c104419 => ?_, fun c104420 => ?_⟩
      · replace c104419 := q_neq c104419
        rw [li_0] at c104419
        refine wq_X7_isDone q104413 (fun r_10 u_11 q104421 q104422 q104423 => ?_)
        have := q104421.1
        have := q104421.2.1
        have : (u_11.1 6).toInt = (u_8.1 6).toInt := ie_i q104422 6 (by decide)
        have p104424 : 0 < D := by omega
        have : (u_11.1 5).toInt = (u_8.1 5).toInt := ie_i q104422 5 (by decide)
        have : (u_8.1 5).toInt = (u_5.1 5).toInt := ie_i q104414 5 (by decide)
        have : (u_5.1 5).toInt = (u_2.1 5).toInt := ie_i q104404 5 (by decide)
        have : (u_2.1 5).toInt = (s0.1 5).toInt := ie_i q104395 5 (by decide)
        have p104425 : (u_11.1 5).toInt = N := by omega
        have : (u_11.1 0).toInt = (u_8.1 0).toInt := ie_i q104422 0 (by decide)
        have : (u_8.1 0).toInt = (u_5.1 0).toInt := ie_i q104414 0 (by decide)
        have : (u_5.1 0).toInt = (u_2.1 0).toInt := ie_i q104404 0 (by decide)
        have : (u_2.1 0).toInt = (s0.1 0).toInt := ie_i q104395 0 (by decide)
        have p104426 : 0 ≤ (u_11.1 0).toInt ∧ (u_11.1 0).toInt ≤ 10 := by omega
        have p104427 : 0 ≤ N ∧ N ≤ 400 := by omega
        have p104428 : 0 ≤ R ∧ R ≤ 6 ∧ 0 ≤ W ∧ W ≤ 10 ∧ 0 ≤ R * W ∧ R * W ≤ 40 ∧ 0 ≤ D ∧ D ≤ 4 ∧ (D ≤ 0 ∨ 1 ≤ R) ∧ (1 ≤ R ∨ R * W = 0) := by omega
        have B104429 : mb (N) (R) (W) (D) ((va_up u_11.1 14 ((u_11.1 14) + 1)), u_11.2.1, u_11.2.2.1, u_11.2.2.2) := ⟨p104425, p104426, p104427, p104428, q104421.2.2.2.2.1, q104421.2.2.2.2.2.1, q104421.2.2.2.2.2.2.1, q104421.2.2.2.2.2.2.2⟩
        have p104430 : ie [1, 2, 6, 7, 8, 9, 10, 11, 12, 13, 14] (va_up u_11.1 14 ((u_11.1 14) + 1)) (va_up u_11.1 14 ((u_11.1 14) + 1)) := (ie_refl _ _)
        have : (u_11.1 14).toInt = (u_8.1 14).toInt := ie_i q104422 14 (by decide)
        have : (u_8.1 14).toInt = (u_5.1 14).toInt := ie_i q104414 14 (by decide)
        have : (u_5.1 14).toInt = (u_2.1 14).toInt := ie_i q104404 14 (by decide)
        have : (u_2.1 14).toInt = (s0.1 14).toInt := ie_i q104395 14 (by decide)
        have e104431 := tq_addr li_1 (u_11.1 14)
        try rw [Int.emod_eq_of_lt (show 0 ≤ (u_11.1 14).toInt + 1 + 2147483648 by omega) (show (u_11.1 14).toInt + 1 + 2147483648 < 4294967296 by omega)] at e104431
        have p104432 : ((u_11.1 14) + 1).toInt = 2 := by omega
        have p104433 : (u_11.1 6).toInt = ((u_11.1 6).toInt) := by omega
        have p104434 : 0 ≤ ((u_11.1 6).toInt) ∧ ((u_11.1 6).toInt) ≤ (u_11.1 6).toInt ∧ (u_11.1 6).toInt ≤ N := by omega
        have p104435 : 0 ≤ (0 : Int32).toInt ∧ (0 : Int32).toInt ≤ 21 ∧ (u_2.1 8).toInt ≤ 20 := by (have := li_0; omega)
        obtain ⟨f104436, g104437⟩ := fu_e 50
        have p104438 : 21 - (0 : Int32).toInt < (f104436 : Int) := by (have := li_0; omega)
        refine ⟨f104436, wq_X7_goesTimes_3_L90 p104424 (fun t0 z1 z2 z3 z4 z5 q104439 q104440 q104441 q104442 q104443 q104444 => ?_) (fun r104445 u104446 q104447 q104448 q104449 q104450 => ?_) f104436 _ _ _ _ _ _ B104429 p104430 p104432 p104433 p104434 p104435 p104438⟩
        · have := q104439.1
          have := q104439.2.1
          have p104451 : 0 ≤ (t0.1 6).toInt ∧ (t0.1 6).toInt ≤ N := by omega
          have p104452 : ¬ ((41 : Int32)).toInt = -1 := by (have := li_41; omega)
          refine wq_X7_mustByte q104439 p104451 p104452 (fun r_37 u_38 q104453 q104454 q104455 q104456 q104457 q104458 => ?_)
          have := q104453.1
          have := q104453.2.1
          refine ⟨fun c104459 => ?_, fun c104460 => ?_⟩
          · replace c104459 := q_neq c104459
            rw [li_0] at c104459
            have : (u_38.1 5).toInt = (t0.1 5).toInt := ie_i q104454 5 (by decide)
            have : (t0.1 5).toInt = (u_11.1 5).toInt := ie_i q104440 5 (by decide)
            have p104461 : (u_38.1 5).toInt = N := by omega
            have : (u_38.1 0).toInt = (t0.1 0).toInt := ie_i q104454 0 (by decide)
            have : (t0.1 0).toInt = (u_11.1 0).toInt := ie_i q104440 0 (by decide)
            have p104462 : 0 ≤ (u_38.1 0).toInt ∧ (u_38.1 0).toInt ≤ 10 := by omega
            have p104463 : 0 ≤ N ∧ N ≤ 400 := by omega
            have p104464 : 0 ≤ R ∧ R ≤ 6 ∧ 0 ≤ W ∧ W ≤ 10 ∧ 0 ≤ R * W ∧ R * W ≤ 40 ∧ 0 ≤ D ∧ D ≤ 4 ∧ (D ≤ 0 ∨ 1 ≤ R) ∧ (1 ≤ R ∨ R * W = 0) := by omega
            have B104465 : mb (N) (R) (W) (D) ((va_up u_38.1 14 ((u_38.1 14) - 1)), u_38.2.1, u_38.2.2.1, u_38.2.2.2) := ⟨p104461, p104462, p104463, p104464, q104453.2.2.2.2.1, q104453.2.2.2.2.2.1, q104453.2.2.2.2.2.2.1, q104453.2.2.2.2.2.2.2⟩
            have p104466 : ie [1, 2, 6, 7, 8, 9, 10, 11, 12, 13, 14] (va_up u_38.1 14 ((u_38.1 14) - 1)) s0.1 := (ie_up (ie_tr q104454 (by decide) (ie_tr q104440 (by decide) (ie_up (ie_tr q104422 (by decide) (ie_tr q104414 (by decide) (ie_tr q104404 (by decide) (ie_tr q104395 (by decide) (ie_up (ie_refl _ _) (by decide)))))) (by decide)))) (by decide))
            have p104467 : (1 : Int32).toInt = 0 ∨ (1 : Int32).toInt = 1 := by (have := li_1; omega)
            have p104468 : (s0.1 6).toInt ≤ (u_38.1 6).toInt ∧ (u_38.1 6).toInt ≤ N := by omega
            have : (u_38.1 14).toInt = (t0.1 14).toInt := ie_i q104454 14 (by decide)
            have e104469 := tq_subr li_1 (u_38.1 14)
            try rw [Int.emod_eq_of_lt (show 0 ≤ (u_38.1 14).toInt - 1 + 2147483648 by omega) (show (u_38.1 14).toInt - 1 + 2147483648 < 4294967296 by omega)] at e104469
            have p104470 : (1 : Int32).toInt = 0 ∨ ((u_38.1 14) - 1).toInt = (s0.1 14).toInt := by (have := li_1; omega)
            exact k _ _ B104465 p104466 p104467 p104468 p104470
          · replace c104460 := q_eq c104460
            rw [li_0] at c104460
            have p104471 : ie [1, 2, 6, 7, 8, 9, 10, 11, 12, 13, 14] u_38.1 s0.1 := (ie_tr q104454 (by decide) (ie_tr q104440 (by decide) (ie_up (ie_tr q104422 (by decide) (ie_tr q104414 (by decide) (ie_tr q104404 (by decide) (ie_tr q104395 (by decide) (ie_up (ie_refl _ _) (by decide)))))) (by decide))))
            have p104472 : (0 : Int32).toInt = 0 ∨ (0 : Int32).toInt = 1 := by (have := li_0; omega)
            have p104473 : (s0.1 6).toInt ≤ (u_38.1 6).toInt ∧ (u_38.1 6).toInt ≤ N := by omega
            have : (u_38.1 14).toInt = (t0.1 14).toInt := ie_i q104454 14 (by decide)
            have p104474 : (0 : Int32).toInt = 0 ∨ (u_38.1 14).toInt = (s0.1 14).toInt := by (have := li_0; omega)
            exact k _ _ q104453 p104471 p104472 p104473 p104474
        · have := q104447.1
          have := q104447.2.1
          have p104475 : ie [1, 2, 6, 7, 8, 9, 10, 11, 12, 13, 14] u104446.1 s0.1 := (ie_tr q104448 (by decide) (ie_up (ie_tr q104422 (by decide) (ie_tr q104414 (by decide) (ie_tr q104404 (by decide) (ie_tr q104395 (by decide) (ie_up (ie_refl _ _) (by decide)))))) (by decide)))
          have p104476 : (r104445).toInt = 0 ∨ (r104445).toInt = 1 := by omega
          have p104477 : (s0.1 6).toInt ≤ (u104446.1 6).toInt ∧ (u104446.1 6).toInt ≤ N := by omega
          have p104478 : (r104445).toInt = 0 ∨ (u104446.1 14).toInt = (s0.1 14).toInt := by omega
          exact k _ _ q104447 p104475 p104476 p104477 p104478
      · replace c104420 := q_eq c104420
        rw [li_0] at c104420
        have p104479 : ie [1, 2, 6, 7, 8, 9, 10, 11, 12, 13, 14] u_8.1 s0.1 := (ie_tr q104414 (by decide) (ie_tr q104404 (by decide) (ie_tr q104395 (by decide) (ie_up (ie_refl _ _) (by decide)))))
        have p104480 : (0 : Int32).toInt = 0 ∨ (0 : Int32).toInt = 1 := by (have := li_0; omega)
        have p104481 : (s0.1 6).toInt ≤ (u_8.1 6).toInt ∧ (u_8.1 6).toInt ≤ N := by omega
        have : (u_8.1 14).toInt = (u_5.1 14).toInt := ie_i q104414 14 (by decide)
        have : (u_5.1 14).toInt = (u_2.1 14).toInt := ie_i q104404 14 (by decide)
        have : (u_2.1 14).toInt = (s0.1 14).toInt := ie_i q104395 14 (by decide)
        have p104482 : (0 : Int32).toInt = 0 ∨ (u_8.1 14).toInt = (s0.1 14).toInt := by (have := li_0; omega)
        exact k _ _ q104413 p104479 p104480 p104481 p104482
    · replace c104410 := q_eq c104410
      rw [li_40] at c104410
      refine ⟨fun c104483 => ?_, fun c104484 => ?_⟩
      · replace c104483 := q_neq c104483
        rw [li_3] at c104483
        have : (u_5.1 14).toInt = (u_2.1 14).toInt := ie_i q104404 14 (by decide)
        have : (u_2.1 14).toInt = (s0.1 14).toInt := ie_i q104395 14 (by decide)
        have p104485 : 0 ≤ (u_5.1 6).toInt ∧ (u_5.1 6).toInt ≤ N := by omega
        have p104486 : ¬ ((40 : Int32)).toInt = -1 := by (have := li_40; omega)
        refine wq_X7_mustByte q104403 p104485 p104486 (fun r_41 u_42 q104487 q104488 q104489 q104490 q104491 q104492 => ?_)
        have := q104487.1
        have := q104487.2.1
        refine ⟨fun c104493 => ?_, fun c104494 => ?_⟩
        · replace c104493 := q_neq c104493
          rw [li_0] at c104493
          refine wq_X7_isDone q104487 (fun r_44 u_45 q104495 q104496 q104497 => ?_)
          have := q104495.1
          have := q104495.2.1
          have : (u_45.1 6).toInt = (u_42.1 6).toInt := ie_i q104496 6 (by decide)
          have p104498 : 0 < D := by omega
          have : (u_45.1 5).toInt = (u_42.1 5).toInt := ie_i q104496 5 (by decide)
          have : (u_42.1 5).toInt = (u_5.1 5).toInt := ie_i q104488 5 (by decide)
          have : (u_5.1 5).toInt = (u_2.1 5).toInt := ie_i q104404 5 (by decide)
          have : (u_2.1 5).toInt = (s0.1 5).toInt := ie_i q104395 5 (by decide)
          have p104499 : (u_45.1 5).toInt = N := by omega
          have : (u_45.1 0).toInt = (u_42.1 0).toInt := ie_i q104496 0 (by decide)
          have : (u_42.1 0).toInt = (u_5.1 0).toInt := ie_i q104488 0 (by decide)
          have : (u_5.1 0).toInt = (u_2.1 0).toInt := ie_i q104404 0 (by decide)
          have : (u_2.1 0).toInt = (s0.1 0).toInt := ie_i q104395 0 (by decide)
          have p104500 : 0 ≤ (u_45.1 0).toInt ∧ (u_45.1 0).toInt ≤ 10 := by omega
          have p104501 : 0 ≤ N ∧ N ≤ 400 := by omega
          have p104502 : 0 ≤ R ∧ R ≤ 6 ∧ 0 ≤ W ∧ W ≤ 10 ∧ 0 ≤ R * W ∧ R * W ≤ 40 ∧ 0 ≤ D ∧ D ≤ 4 ∧ (D ≤ 0 ∨ 1 ≤ R) ∧ (1 ≤ R ∨ R * W = 0) := by omega
          have B104503 : mb (N) (R) (W) (D) ((va_up u_45.1 14 ((u_45.1 14) + 1)), u_45.2.1, u_45.2.2.1, u_45.2.2.2) := ⟨p104499, p104500, p104501, p104502, q104495.2.2.2.2.1, q104495.2.2.2.2.2.1, q104495.2.2.2.2.2.2.1, q104495.2.2.2.2.2.2.2⟩
          have p104504 : ie [1, 2, 6, 7, 8, 9, 10, 11, 12, 13, 14] (va_up u_45.1 14 ((u_45.1 14) + 1)) (va_up u_45.1 14 ((u_45.1 14) + 1)) := (ie_refl _ _)
          have : (u_45.1 14).toInt = (u_42.1 14).toInt := ie_i q104496 14 (by decide)
          have : (u_42.1 14).toInt = (u_5.1 14).toInt := ie_i q104488 14 (by decide)
          have e104505 := tq_addr li_1 (u_45.1 14)
          try rw [Int.emod_eq_of_lt (show 0 ≤ (u_45.1 14).toInt + 1 + 2147483648 by omega) (show (u_45.1 14).toInt + 1 + 2147483648 < 4294967296 by omega)] at e104505
          have p104506 : ((u_45.1 14) + 1).toInt = 2 := by omega
          have p104507 : (u_45.1 6).toInt = ((u_45.1 6).toInt) := by omega
          have p104508 : 0 ≤ ((u_45.1 6).toInt) ∧ ((u_45.1 6).toInt) ≤ (u_45.1 6).toInt ∧ (u_45.1 6).toInt ≤ N := by omega
          have p104509 : 0 ≤ (0 : Int32).toInt ∧ (0 : Int32).toInt ≤ 21 ∧ (u_2.1 8).toInt ≤ 20 := by (have := li_0; omega)
          obtain ⟨f104510, g104511⟩ := fu_e 50
          have p104512 : 21 - (0 : Int32).toInt < (f104510 : Int) := by (have := li_0; omega)
          refine ⟨f104510, wq_X7_goesTimes_3_L90b p104498 (fun t0 z1 z2 z3 z4 z5 q104513 q104514 q104515 q104516 q104517 q104518 => ?_) (fun r104519 u104520 q104521 q104522 q104523 q104524 => ?_) f104510 _ _ _ _ _ _ B104503 p104504 p104506 p104507 p104508 p104509 p104512⟩
          · have := q104513.1
            have := q104513.2.1
            have p104525 : 0 ≤ (t0.1 6).toInt ∧ (t0.1 6).toInt ≤ N := by omega
            have p104526 : ¬ ((41 : Int32)).toInt = -1 := by (have := li_41; omega)
            refine wq_X7_mustByte q104513 p104525 p104526 (fun r_71 u_72 q104527 q104528 q104529 q104530 q104531 q104532 => ?_)
            have := q104527.1
            have := q104527.2.1
            refine ⟨fun c104533 => ?_, fun c104534 => ?_⟩
            · replace c104533 := q_neq c104533
              rw [li_0] at c104533
              have : (u_72.1 5).toInt = (t0.1 5).toInt := ie_i q104528 5 (by decide)
              have : (t0.1 5).toInt = (u_45.1 5).toInt := ie_i q104514 5 (by decide)
              have p104535 : (u_72.1 5).toInt = N := by omega
              have : (u_72.1 0).toInt = (t0.1 0).toInt := ie_i q104528 0 (by decide)
              have : (t0.1 0).toInt = (u_45.1 0).toInt := ie_i q104514 0 (by decide)
              have p104536 : 0 ≤ (u_72.1 0).toInt ∧ (u_72.1 0).toInt ≤ 10 := by omega
              have p104537 : 0 ≤ N ∧ N ≤ 400 := by omega
              have p104538 : 0 ≤ R ∧ R ≤ 6 ∧ 0 ≤ W ∧ W ≤ 10 ∧ 0 ≤ R * W ∧ R * W ≤ 40 ∧ 0 ≤ D ∧ D ≤ 4 ∧ (D ≤ 0 ∨ 1 ≤ R) ∧ (1 ≤ R ∨ R * W = 0) := by omega
              have B104539 : mb (N) (R) (W) (D) ((va_up u_72.1 14 ((u_72.1 14) - 1)), u_72.2.1, u_72.2.2.1, u_72.2.2.2) := ⟨p104535, p104536, p104537, p104538, q104527.2.2.2.2.1, q104527.2.2.2.2.2.1, q104527.2.2.2.2.2.2.1, q104527.2.2.2.2.2.2.2⟩
              have p104540 : ie [1, 2, 6, 7, 8, 9, 10, 11, 12, 13, 14] (va_up u_72.1 14 ((u_72.1 14) - 1)) s0.1 := (ie_up (ie_tr q104528 (by decide) (ie_tr q104514 (by decide) (ie_up (ie_tr q104496 (by decide) (ie_tr q104488 (by decide) (ie_tr q104404 (by decide) (ie_tr q104395 (by decide) (ie_up (ie_refl _ _) (by decide)))))) (by decide)))) (by decide))
              have p104541 : (1 : Int32).toInt = 0 ∨ (1 : Int32).toInt = 1 := by (have := li_1; omega)
              have p104542 : (s0.1 6).toInt ≤ (u_72.1 6).toInt ∧ (u_72.1 6).toInt ≤ N := by omega
              have : (u_72.1 14).toInt = (t0.1 14).toInt := ie_i q104528 14 (by decide)
              have e104543 := tq_subr li_1 (u_72.1 14)
              try rw [Int.emod_eq_of_lt (show 0 ≤ (u_72.1 14).toInt - 1 + 2147483648 by omega) (show (u_72.1 14).toInt - 1 + 2147483648 < 4294967296 by omega)] at e104543
              have p104544 : (1 : Int32).toInt = 0 ∨ ((u_72.1 14) - 1).toInt = (s0.1 14).toInt := by (have := li_1; omega)
              exact k _ _ B104539 p104540 p104541 p104542 p104544
            · replace c104534 := q_eq c104534
              rw [li_0] at c104534
              have p104545 : ie [1, 2, 6, 7, 8, 9, 10, 11, 12, 13, 14] u_72.1 s0.1 := (ie_tr q104528 (by decide) (ie_tr q104514 (by decide) (ie_up (ie_tr q104496 (by decide) (ie_tr q104488 (by decide) (ie_tr q104404 (by decide) (ie_tr q104395 (by decide) (ie_up (ie_refl _ _) (by decide)))))) (by decide))))
              have p104546 : (0 : Int32).toInt = 0 ∨ (0 : Int32).toInt = 1 := by (have := li_0; omega)
              have p104547 : (s0.1 6).toInt ≤ (u_72.1 6).toInt ∧ (u_72.1 6).toInt ≤ N := by omega
              have : (u_72.1 14).toInt = (t0.1 14).toInt := ie_i q104528 14 (by decide)
              have p104548 : (0 : Int32).toInt = 0 ∨ (u_72.1 14).toInt = (s0.1 14).toInt := by (have := li_0; omega)
              exact k _ _ q104527 p104545 p104546 p104547 p104548
          · have := q104521.1
            have := q104521.2.1
            have p104549 : ie [1, 2, 6, 7, 8, 9, 10, 11, 12, 13, 14] u104520.1 s0.1 := (ie_tr q104522 (by decide) (ie_up (ie_tr q104496 (by decide) (ie_tr q104488 (by decide) (ie_tr q104404 (by decide) (ie_tr q104395 (by decide) (ie_up (ie_refl _ _) (by decide)))))) (by decide)))
            have p104550 : (r104519).toInt = 0 ∨ (r104519).toInt = 1 := by omega
            have p104551 : (s0.1 6).toInt ≤ (u104520.1 6).toInt ∧ (u104520.1 6).toInt ≤ N := by omega
            have p104552 : (r104519).toInt = 0 ∨ (u104520.1 14).toInt = (s0.1 14).toInt := by omega
            exact k _ _ q104521 p104549 p104550 p104551 p104552
        · replace c104494 := q_eq c104494
          rw [li_0] at c104494
          have p104553 : ie [1, 2, 6, 7, 8, 9, 10, 11, 12, 13, 14] u_42.1 s0.1 := (ie_tr q104488 (by decide) (ie_tr q104404 (by decide) (ie_tr q104395 (by decide) (ie_up (ie_refl _ _) (by decide)))))
          have p104554 : (0 : Int32).toInt = 0 ∨ (0 : Int32).toInt = 1 := by (have := li_0; omega)
          have p104555 : (s0.1 6).toInt ≤ (u_42.1 6).toInt ∧ (u_42.1 6).toInt ≤ N := by omega
          have : (u_42.1 14).toInt = (u_5.1 14).toInt := ie_i q104488 14 (by decide)
          have p104556 : (0 : Int32).toInt = 0 ∨ (u_42.1 14).toInt = (s0.1 14).toInt := by (have := li_0; omega)
          exact k _ _ q104487 p104553 p104554 p104555 p104556
      · replace c104484 := q_eq c104484
        rw [li_3] at c104484
        have : (u_5.1 14).toInt = (u_2.1 14).toInt := ie_i q104404 14 (by decide)
        have : (u_2.1 14).toInt = (s0.1 14).toInt := ie_i q104395 14 (by decide)
        refine wq_X7_fails q104403 (fun r_74 u_75 q104557 q104558 q104559 q104560 => ?_)
        have := q104557.1
        have := q104557.2.1
        refine ⟨(nb_b (by omega)), ?_⟩
        have p104561 : ie [1, 2, 6, 7, 8, 9, 10, 11, 12, 13, 14] u_75.1 s0.1 := (ie_tr q104558 (by decide) (ie_tr q104404 (by decide) (ie_tr q104395 (by decide) (ie_up (ie_refl _ _) (by decide)))))
        have p104562 : (r_74).toInt = 0 ∨ (r_74).toInt = 1 := by omega
        have : (u_75.1 6).toInt = (u_5.1 6).toInt := ie_i q104558 6 (by decide)
        have p104563 : (s0.1 6).toInt ≤ (u_75.1 6).toInt ∧ (u_75.1 6).toInt ≤ N := by omega
        have : (u_75.1 14).toInt = (u_5.1 14).toInt := ie_i q104558 14 (by decide)
        have p104564 : (r_74).toInt = 0 ∨ (u_75.1 14).toInt = (s0.1 14).toInt := by omega
        exact k _ _ q104557 p104561 p104562 p104563 p104564
  · replace c104401 := q_eq c104401
    rw [li_0] at c104401
    have p104565 : ie [1, 2, 6, 7, 8, 9, 10, 11, 12, 13, 14] u_2.1 s0.1 := (ie_tr q104395 (by decide) (ie_up (ie_refl _ _) (by decide)))
    have p104566 : (0 : Int32).toInt = 0 ∨ (0 : Int32).toInt = 1 := by (have := li_0; omega)
    have p104567 : (s0.1 6).toInt ≤ (u_2.1 6).toInt ∧ (u_2.1 6).toInt ≤ N := by omega
    have : (u_2.1 14).toInt = (s0.1 14).toInt := ie_i q104395 14 (by decide)
    have p104568 : (0 : Int32).toInt = 0 ∨ (u_2.1 14).toInt = (s0.1 14).toInt := by (have := li_0; omega)
    exact k _ _ q104394 p104565 p104566 p104567 p104568
theorem wq_X7_goesOne_3 {post : Int32 → Md → Prop} {s0 : Md} {x1 : Int32} {N R W D : Int} (h104569 : mb (N) (R) (W) (D) s0) (h104570 : 0 < D) (h104571 : 0 ≤ (s0.1 6).toInt ∧ (s0.1 6).toInt ≤ N) (h104572 : (s0.1 14).toInt = 1) (k : ∀ (r : Int32) (u : Md), mb (N) (R) (W) (D) u → ie [1, 2, 6, 7, 8, 9, 10, 11, 12, 13, 14] u.1 s0.1 → (r).toInt = 0 ∨ (r).toInt = 1 → (s0.1 6).toInt ≤ (u.1 6).toInt ∧ (u.1 6).toInt ≤ N → (r).toInt = 0 ∨ (u.1 14).toInt = (s0.1 14).toInt → post r u) : wp_X7_goesOne_3 post s0 x1 := by
  unfold wp_X7_goesOne_3
  have := h104569.1
  have := h104569.2.1
  have := h104569.2.2.1
  have := h104569.2.2.2.1
  have p104573 : 0 ≤ (s0.1 6).toInt ∧ (s0.1 6).toInt ≤ N := by omega
  have p104574 : 1 ≤ ln 5 ∧ ln 5 ≤ 9 := by first | assumption | decide
  refine wq_X7_isWord h104569 p104573 p104574 (fun r_1 u_2 q104575 q104576 q104577 q104578 q104579 q104580 q104581 => ?_)
  have := q104575.1
  have := q104575.2.1
  have := ln_5
  refine ⟨fun c104582 => ?_, fun c104583 => ?_⟩
  · replace c104582 := q_eq c104582
    rw [li_0] at c104582
    have p104584 : 0 ≤ (u_2.1 6).toInt ∧ (u_2.1 6).toInt ≤ N := by omega
    have p104585 : 1 ≤ ln 7 ∧ ln 7 ≤ 9 := by first | assumption | decide
    refine wq_X7_isWord q104575 p104584 p104585 (fun r_4 u_5 q104586 q104587 q104588 q104589 q104590 q104591 q104592 => ?_)
    have := q104586.1
    have := q104586.2.1
    have := ln_7
    refine ⟨fun c104593 => ?_, fun c104594 => ?_⟩
    · replace c104593 := q_eq c104593
      rw [li_0] at c104593
      have p104595 : 0 ≤ (u_5.1 6).toInt ∧ (u_5.1 6).toInt ≤ N := by omega
      have p104596 : 1 ≤ ln 8 ∧ ln 8 ≤ 9 := by first | assumption | decide
      refine wq_X7_isWord q104586 p104595 p104596 (fun r_7 u_8 q104597 q104598 q104599 q104600 q104601 q104602 q104603 => ?_)
      have := q104597.1
      have := q104597.2.1
      have := ln_8
      refine ⟨fun c104604 => ?_, fun c104605 => ?_⟩
      · replace c104604 := q_eq c104604
        rw [li_0] at c104604
        have p104606 : 0 ≤ (u_8.1 6).toInt ∧ (u_8.1 6).toInt ≤ N := by omega
        have p104607 : 1 ≤ ln 9 ∧ ln 9 ≤ 9 := by first | assumption | decide
        refine wq_X7_isWord q104597 p104606 p104607 (fun r_10 u_11 q104608 q104609 q104610 q104611 q104612 q104613 q104614 => ?_)
        have := q104608.1
        have := q104608.2.1
        have := ln_9
        refine ⟨fun c104615 => ?_, fun c104616 => ?_⟩
        · replace c104615 := q_eq c104615
          rw [li_0] at c104615
          have p104617 : 0 ≤ (u_11.1 6).toInt ∧ (u_11.1 6).toInt ≤ N := by omega
          have p104618 : 1 ≤ ln 10 ∧ ln 10 ≤ 9 := by first | assumption | decide
          refine wq_X7_isWord q104608 p104617 p104618 (fun r_13 u_14 q104619 q104620 q104621 q104622 q104623 q104624 q104625 => ?_)
          have := q104619.1
          have := q104619.2.1
          have := ln_10
          refine ⟨fun c104626 => ?_, fun c104627 => ?_⟩
          · replace c104626 := q_eq c104626
            rw [li_0] at c104626
            have p104628 : 0 ≤ (u_14.1 6).toInt ∧ (u_14.1 6).toInt ≤ N := by omega
            have p104629 : 1 ≤ ln 6 ∧ ln 6 ≤ 9 := by first | assumption | decide
            refine wq_X7_isWord q104619 p104628 p104629 (fun r_16 u_17 q104630 q104631 q104632 q104633 q104634 q104635 q104636 => ?_)
            have := q104630.1
            have := q104630.2.1
            have := ln_6
            refine ⟨fun c104637 => ?_, fun c104638 => ?_⟩
            · replace c104637 := q_eq c104637
              rw [li_0] at c104637
              have p104639 : 0 ≤ (u_17.1 6).toInt ∧ (u_17.1 6).toInt ≤ N := by omega
              have p104640 : 1 ≤ ln 11 ∧ ln 11 ≤ 9 := by first | assumption | decide
              refine wq_X7_isWord q104630 p104639 p104640 (fun r_19 u_20 q104641 q104642 q104643 q104644 q104645 q104646 q104647 => ?_)
              have := q104641.1
              have := q104641.2.1
              have := ln_11
              refine ⟨fun c104648 => ?_, fun c104649 => ?_⟩
              · replace c104648 := q_eq c104648
                rw [li_0] at c104648
                refine wq_X7_fails q104641 (fun r_22 u_23 q104650 q104651 q104652 q104653 => ?_)
                have := q104650.1
                have := q104650.2.1
                refine ⟨(nb_b (by omega)), ?_⟩
                have p104654 : ie [1, 2, 6, 7, 8, 9, 10, 11, 12, 13, 14] u_23.1 s0.1 := (ie_tr q104651 (by decide) (ie_tr q104642 (by decide) (ie_tr q104631 (by decide) (ie_tr q104620 (by decide) (ie_tr q104609 (by decide) (ie_tr q104598 (by decide) (ie_tr q104587 (by decide) (ie_tr q104576 (by decide) (ie_refl _ _)))))))))
                have p104655 : (r_22).toInt = 0 ∨ (r_22).toInt = 1 := by omega
                have : (u_23.1 6).toInt = (u_20.1 6).toInt := ie_i q104651 6 (by decide)
                have p104656 : (s0.1 6).toInt ≤ (u_23.1 6).toInt ∧ (u_23.1 6).toInt ≤ N := by omega
                have : (u_23.1 14).toInt = (u_20.1 14).toInt := ie_i q104651 14 (by decide)
                have : (u_20.1 14).toInt = (u_17.1 14).toInt := ie_i q104642 14 (by decide)
                have : (u_17.1 14).toInt = (u_14.1 14).toInt := ie_i q104631 14 (by decide)
                have : (u_14.1 14).toInt = (u_11.1 14).toInt := ie_i q104620 14 (by decide)
                have : (u_11.1 14).toInt = (u_8.1 14).toInt := ie_i q104609 14 (by decide)
                have : (u_8.1 14).toInt = (u_5.1 14).toInt := ie_i q104598 14 (by decide)
                have : (u_5.1 14).toInt = (u_2.1 14).toInt := ie_i q104587 14 (by decide)
                have : (u_2.1 14).toInt = (s0.1 14).toInt := ie_i q104576 14 (by decide)
                have p104657 : (r_22).toInt = 0 ∨ (u_23.1 14).toInt = (s0.1 14).toInt := by omega
                exact k _ _ q104650 p104654 p104655 p104656 p104657
              · replace c104649 := q_neq c104649
                rw [li_0] at c104649
                have p104658 : 0 < D := by omega
                have p104659 : 0 ≤ (u_20.1 6).toInt ∧ (u_20.1 6).toInt + 5 ≤ N := by omega
                have : (u_20.1 14).toInt = (u_17.1 14).toInt := ie_i q104642 14 (by decide)
                have : (u_17.1 14).toInt = (u_14.1 14).toInt := ie_i q104631 14 (by decide)
                have : (u_14.1 14).toInt = (u_11.1 14).toInt := ie_i q104620 14 (by decide)
                have : (u_11.1 14).toInt = (u_8.1 14).toInt := ie_i q104609 14 (by decide)
                have : (u_8.1 14).toInt = (u_5.1 14).toInt := ie_i q104598 14 (by decide)
                have : (u_5.1 14).toInt = (u_2.1 14).toInt := ie_i q104587 14 (by decide)
                have : (u_2.1 14).toInt = (s0.1 14).toInt := ie_i q104576 14 (by decide)
                have p104660 : (u_20.1 14).toInt = 1 := by omega
                refine wq_X7_goesTimes_3 q104641 p104658 p104659 p104660 (fun r_25 u_26 q104661 q104662 q104663 q104664 q104665 => ?_)
                have := q104661.1
                have := q104661.2.1
                refine ⟨(nb_b (by omega)), ?_⟩
                have p104666 : ie [1, 2, 6, 7, 8, 9, 10, 11, 12, 13, 14] u_26.1 s0.1 := (ie_tr q104662 (by decide) (ie_tr q104642 (by decide) (ie_tr q104631 (by decide) (ie_tr q104620 (by decide) (ie_tr q104609 (by decide) (ie_tr q104598 (by decide) (ie_tr q104587 (by decide) (ie_tr q104576 (by decide) (ie_refl _ _)))))))))
                have p104667 : (r_25).toInt = 0 ∨ (r_25).toInt = 1 := by omega
                have p104668 : (s0.1 6).toInt ≤ (u_26.1 6).toInt ∧ (u_26.1 6).toInt ≤ N := by omega
                have p104669 : (r_25).toInt = 0 ∨ (u_26.1 14).toInt = (s0.1 14).toInt := by omega
                exact k _ _ q104661 p104666 p104667 p104668 p104669
            · replace c104638 := q_neq c104638
              rw [li_0] at c104638
              have p104670 : 0 < D := by omega
              have p104671 : 0 ≤ (u_17.1 6).toInt ∧ (u_17.1 6).toInt + 4 ≤ N := by omega
              refine wq_X7_goesLose q104630 p104670 p104671 (fun r_28 u_29 q104672 q104673 q104674 q104675 => ?_)
              have := q104672.1
              have := q104672.2.1
              refine ⟨(nb_b (by omega)), ?_⟩
              have p104676 : ie [1, 2, 6, 7, 8, 9, 10, 11, 12, 13, 14] u_29.1 s0.1 := (ie_tr q104673 (by decide) (ie_tr q104631 (by decide) (ie_tr q104620 (by decide) (ie_tr q104609 (by decide) (ie_tr q104598 (by decide) (ie_tr q104587 (by decide) (ie_tr q104576 (by decide) (ie_refl _ _))))))))
              have p104677 : (r_28).toInt = 0 ∨ (r_28).toInt = 1 := by omega
              have p104678 : (s0.1 6).toInt ≤ (u_29.1 6).toInt ∧ (u_29.1 6).toInt ≤ N := by omega
              have : (u_29.1 14).toInt = (u_17.1 14).toInt := ie_i q104673 14 (by decide)
              have : (u_17.1 14).toInt = (u_14.1 14).toInt := ie_i q104631 14 (by decide)
              have : (u_14.1 14).toInt = (u_11.1 14).toInt := ie_i q104620 14 (by decide)
              have : (u_11.1 14).toInt = (u_8.1 14).toInt := ie_i q104609 14 (by decide)
              have : (u_8.1 14).toInt = (u_5.1 14).toInt := ie_i q104598 14 (by decide)
              have : (u_5.1 14).toInt = (u_2.1 14).toInt := ie_i q104587 14 (by decide)
              have : (u_2.1 14).toInt = (s0.1 14).toInt := ie_i q104576 14 (by decide)
              have p104679 : (r_28).toInt = 0 ∨ (u_29.1 14).toInt = (s0.1 14).toInt := by omega
              exact k _ _ q104672 p104676 p104677 p104678 p104679
          · replace c104627 := q_neq c104627
            rw [li_0] at c104627
            have p104680 : 0 < D := by omega
            have p104681 : 0 ≤ (u_14.1 6).toInt ∧ (u_14.1 6).toInt + 6 ≤ N := by omega
            refine wq_X7_goesSettle q104619 p104680 p104681 (fun r_31 u_32 q104682 q104683 q104684 q104685 => ?_)
            have := q104682.1
            have := q104682.2.1
            refine ⟨(nb_b (by omega)), ?_⟩
            have p104686 : ie [1, 2, 6, 7, 8, 9, 10, 11, 12, 13, 14] u_32.1 s0.1 := (ie_tr q104683 (by decide) (ie_tr q104620 (by decide) (ie_tr q104609 (by decide) (ie_tr q104598 (by decide) (ie_tr q104587 (by decide) (ie_tr q104576 (by decide) (ie_refl _ _)))))))
            have p104687 : (r_31).toInt = 0 ∨ (r_31).toInt = 1 := by omega
            have p104688 : (s0.1 6).toInt ≤ (u_32.1 6).toInt ∧ (u_32.1 6).toInt ≤ N := by omega
            have : (u_32.1 14).toInt = (u_14.1 14).toInt := ie_i q104683 14 (by decide)
            have : (u_14.1 14).toInt = (u_11.1 14).toInt := ie_i q104620 14 (by decide)
            have : (u_11.1 14).toInt = (u_8.1 14).toInt := ie_i q104609 14 (by decide)
            have : (u_8.1 14).toInt = (u_5.1 14).toInt := ie_i q104598 14 (by decide)
            have : (u_5.1 14).toInt = (u_2.1 14).toInt := ie_i q104587 14 (by decide)
            have : (u_2.1 14).toInt = (s0.1 14).toInt := ie_i q104576 14 (by decide)
            have p104689 : (r_31).toInt = 0 ∨ (u_32.1 14).toInt = (s0.1 14).toInt := by omega
            exact k _ _ q104682 p104686 p104687 p104688 p104689
        · replace c104616 := q_neq c104616
          rw [li_0] at c104616
          have p104690 : 0 < D := by omega
          have p104691 : 0 ≤ (u_11.1 6).toInt ∧ (u_11.1 6).toInt + 4 ≤ N := by omega
          refine wq_X7_goesWait q104608 p104690 p104691 (fun r_34 u_35 q104692 q104693 q104694 q104695 => ?_)
          have := q104692.1
          have := q104692.2.1
          refine ⟨(nb_b (by omega)), ?_⟩
          have p104696 : ie [1, 2, 6, 7, 8, 9, 10, 11, 12, 13, 14] u_35.1 s0.1 := (ie_tr q104693 (by decide) (ie_tr q104609 (by decide) (ie_tr q104598 (by decide) (ie_tr q104587 (by decide) (ie_tr q104576 (by decide) (ie_refl _ _))))))
          have p104697 : (r_34).toInt = 0 ∨ (r_34).toInt = 1 := by omega
          have p104698 : (s0.1 6).toInt ≤ (u_35.1 6).toInt ∧ (u_35.1 6).toInt ≤ N := by omega
          have : (u_35.1 14).toInt = (u_11.1 14).toInt := ie_i q104693 14 (by decide)
          have : (u_11.1 14).toInt = (u_8.1 14).toInt := ie_i q104609 14 (by decide)
          have : (u_8.1 14).toInt = (u_5.1 14).toInt := ie_i q104598 14 (by decide)
          have : (u_5.1 14).toInt = (u_2.1 14).toInt := ie_i q104587 14 (by decide)
          have : (u_2.1 14).toInt = (s0.1 14).toInt := ie_i q104576 14 (by decide)
          have p104699 : (r_34).toInt = 0 ∨ (u_35.1 14).toInt = (s0.1 14).toInt := by omega
          exact k _ _ q104692 p104696 p104697 p104698 p104699
      · replace c104605 := q_neq c104605
        rw [li_0] at c104605
        have p104700 : 0 < D := by omega
        have p104701 : 0 ≤ (u_8.1 6).toInt ∧ (u_8.1 6).toInt + 4 ≤ N := by omega
        refine wq_X7_goesHome q104597 p104700 p104701 (fun r_37 u_38 q104702 q104703 q104704 q104705 => ?_)
        have := q104702.1
        have := q104702.2.1
        refine ⟨(nb_b (by omega)), ?_⟩
        have p104706 : ie [1, 2, 6, 7, 8, 9, 10, 11, 12, 13, 14] u_38.1 s0.1 := (ie_tr q104703 (by decide) (ie_tr q104598 (by decide) (ie_tr q104587 (by decide) (ie_tr q104576 (by decide) (ie_refl _ _)))))
        have p104707 : (r_37).toInt = 0 ∨ (r_37).toInt = 1 := by omega
        have p104708 : (s0.1 6).toInt ≤ (u_38.1 6).toInt ∧ (u_38.1 6).toInt ≤ N := by omega
        have : (u_38.1 14).toInt = (u_8.1 14).toInt := ie_i q104703 14 (by decide)
        have : (u_8.1 14).toInt = (u_5.1 14).toInt := ie_i q104598 14 (by decide)
        have : (u_5.1 14).toInt = (u_2.1 14).toInt := ie_i q104587 14 (by decide)
        have : (u_2.1 14).toInt = (s0.1 14).toInt := ie_i q104576 14 (by decide)
        have p104709 : (r_37).toInt = 0 ∨ (u_38.1 14).toInt = (s0.1 14).toInt := by omega
        exact k _ _ q104702 p104706 p104707 p104708 p104709
    · replace c104594 := q_neq c104594
      rw [li_0] at c104594
      have p104710 : 0 < D := by omega
      have p104711 : 0 ≤ (u_5.1 6).toInt ∧ (u_5.1 6).toInt + 6 ≤ N := by omega
      refine wq_X7_goesScroll q104586 p104710 p104711 (fun r_40 u_41 q104712 q104713 q104714 q104715 => ?_)
      have := q104712.1
      have := q104712.2.1
      refine ⟨(nb_b (by omega)), ?_⟩
      have p104716 : ie [1, 2, 6, 7, 8, 9, 10, 11, 12, 13, 14] u_41.1 s0.1 := (ie_tr q104713 (by decide) (ie_tr q104587 (by decide) (ie_tr q104576 (by decide) (ie_refl _ _))))
      have p104717 : (r_40).toInt = 0 ∨ (r_40).toInt = 1 := by omega
      have p104718 : (s0.1 6).toInt ≤ (u_41.1 6).toInt ∧ (u_41.1 6).toInt ≤ N := by omega
      have : (u_41.1 14).toInt = (u_5.1 14).toInt := ie_i q104713 14 (by decide)
      have : (u_5.1 14).toInt = (u_2.1 14).toInt := ie_i q104587 14 (by decide)
      have : (u_2.1 14).toInt = (s0.1 14).toInt := ie_i q104576 14 (by decide)
      have p104719 : (r_40).toInt = 0 ∨ (u_41.1 14).toInt = (s0.1 14).toInt := by omega
      exact k _ _ q104712 p104716 p104717 p104718 p104719
  · replace c104583 := q_neq c104583
    rw [li_0] at c104583
    have p104720 : 0 < D := by omega
    have p104721 : 0 ≤ (u_2.1 6).toInt ∧ (u_2.1 6).toInt + 3 ≤ N := by omega
    refine wq_X7_goesRow q104575 p104720 p104721 (fun r_43 u_44 q104722 q104723 q104724 q104725 => ?_)
    have := q104722.1
    have := q104722.2.1
    refine ⟨(nb_b (by omega)), ?_⟩
    have p104726 : ie [1, 2, 6, 7, 8, 9, 10, 11, 12, 13, 14] u_44.1 s0.1 := (ie_tr q104723 (by decide) (ie_tr q104576 (by decide) (ie_refl _ _)))
    have p104727 : (r_43).toInt = 0 ∨ (r_43).toInt = 1 := by omega
    have p104728 : (s0.1 6).toInt ≤ (u_44.1 6).toInt ∧ (u_44.1 6).toInt ≤ N := by omega
    have : (u_44.1 14).toInt = (u_2.1 14).toInt := ie_i q104723 14 (by decide)
    have : (u_2.1 14).toInt = (s0.1 14).toInt := ie_i q104576 14 (by decide)
    have p104729 : (r_43).toInt = 0 ∨ (u_44.1 14).toInt = (s0.1 14).toInt := by omega
    exact k _ _ q104722 p104726 p104727 p104728 p104729
theorem wq_X7_goesAll_3_L10 {post : Int32 → Md → Prop} {e27 : Md → Int32 → Prop} {e29 : Md → Int32 → Prop} {D N R W G : Int} {A : Nat → Int32} (h104730 : 0 < D) (ke27 : ∀ (t0 : Md) (z1 : Int32), mb (N) (R) (W) (D) t0 → ie [1, 2, 6, 7, 8, 9, 10, 11, 12, 13, 14] t0.1 A → G ≤ (t0.1 6).toInt ∧ (t0.1 6).toInt ≤ N → e27 t0 z1) (ke29 : ∀ (t0 : Md) (z1 : Int32), mb (N) (R) (W) (D) t0 → ie [1, 2, 6, 7, 8, 9, 10, 11, 12, 13, 14] t0.1 A → (t0.1 14).toInt = 1 → G ≤ (t0.1 6).toInt ∧ (t0.1 6).toInt ≤ N → e29 t0 z1) : ∀ (n : Nat) (t0 : Md) (z1 : Int32), mb (N) (R) (W) (D) t0 → ie [1, 2, 6, 7, 8, 9, 10, 11, 12, 13, 14] t0.1 A → (t0.1 14).toInt = 1 → 0 ≤ G ∧ G ≤ (t0.1 6).toInt ∧ (t0.1 6).toInt ≤ N → N - (t0.1 6).toInt < (n : Int) → wp_X7_goesAll_3_L10 post e27 e29 n t0 z1 := by
  intro n
  induction n with
  | zero =>
    intro t0 z1 i104731 i104732 i104733 i104734 i104735
    have := i104731.1
    have := i104731.2.1
    have := i104731.2.2.1
    have := i104731.2.2.2.1
    exfalso
    omega
  | succ n ih =>
    intro t0 z1 i104731 i104732 i104733 i104734 i104735
    unfold wp_X7_goesAll_3_L10
    have := i104731.1
    have := i104731.2.1
    have := i104731.2.2.1
    have := i104731.2.2.2.1
    have p104736 : 0 ≤ (t0.1 6).toInt ∧ (t0.1 6).toInt ≤ N := by omega
    have p104737 : ¬ ((59 : Int32)).toInt = -1 := by (have := li_59; omega)
    refine wq_X7_takesByte i104731 p104736 p104737 (fun r_4 u_5 q104738 q104739 q104740 q104741 q104742 q104743 => ?_)
    have := q104738.1
    have := q104738.2.1
    refine ⟨fun c104744 => ?_, fun c104745 => ?_⟩
    · replace c104744 := q_eq c104744
      rw [li_0] at c104744
      have p104746 : ie [1, 2, 6, 7, 8, 9, 10, 11, 12, 13, 14] u_5.1 A := (ie_tr q104739 (by decide) (ie_tr i104732 (by decide) (ie_refl _ _)))
      have : (u_5.1 14).toInt = (t0.1 14).toInt := ie_i q104739 14 (by decide)
      have p104747 : (u_5.1 14).toInt = 1 := by omega
      have p104748 : G ≤ (u_5.1 6).toInt ∧ (u_5.1 6).toInt ≤ N := by omega
      exact ke29 _ _ q104738 p104746 p104747 p104748
    · replace c104745 := q_neq c104745
      rw [li_0] at c104745
      have p104749 : 0 < D := by omega
      have p104750 : 0 ≤ (u_5.1 6).toInt ∧ (u_5.1 6).toInt ≤ N := by omega
      have : (u_5.1 14).toInt = (t0.1 14).toInt := ie_i q104739 14 (by decide)
      have p104751 : (u_5.1 14).toInt = 1 := by omega
      refine wq_X7_goesOne_3 q104738 p104749 p104750 p104751 (fun r_7 u_8 q104752 q104753 q104754 q104755 q104756 => ?_)
      have := q104752.1
      have := q104752.2.1
      refine ⟨fun c104757 => ?_, fun c104758 => ?_⟩
      · replace c104757 := q_neq c104757
        rw [li_0] at c104757
        have p104759 : ie [1, 2, 6, 7, 8, 9, 10, 11, 12, 13, 14] u_8.1 A := (ie_tr q104753 (by decide) (ie_tr q104739 (by decide) (ie_tr i104732 (by decide) (ie_refl _ _))))
        have p104760 : (u_8.1 14).toInt = 1 := by omega
        have p104761 : 0 ≤ G ∧ G ≤ (u_8.1 6).toInt ∧ (u_8.1 6).toInt ≤ N := by omega
        have p104762 : N - (u_8.1 6).toInt < ((n : Nat) : Int) := by (omega)
        exact ih _ _ q104752 p104759 p104760 p104761 p104762
      · replace c104758 := q_eq c104758
        rw [li_0] at c104758
        have p104763 : ie [1, 2, 6, 7, 8, 9, 10, 11, 12, 13, 14] u_8.1 A := (ie_tr q104753 (by decide) (ie_tr q104739 (by decide) (ie_tr i104732 (by decide) (ie_refl _ _))))
        have p104764 : G ≤ (u_8.1 6).toInt ∧ (u_8.1 6).toInt ≤ N := by omega
        exact ke27 _ _ q104752 p104763 p104764
theorem wq_X7_goesAll_3 {post : Int32 → Md → Prop} {s0 : Md} {x1 : Int32} {N R W D : Int} (h104765 : mb (N) (R) (W) (D) s0) (h104766 : 0 < D) (h104767 : 0 ≤ (s0.1 6).toInt ∧ (s0.1 6).toInt ≤ N) (h104768 : (s0.1 14).toInt = 1) (k : ∀ (r : Int32) (u : Md), mb (N) (R) (W) (D) u → ie [1, 2, 6, 7, 8, 9, 10, 11, 12, 13, 14] u.1 s0.1 → (r).toInt = 0 ∨ (r).toInt = 1 → (s0.1 6).toInt ≤ (u.1 6).toInt ∧ (u.1 6).toInt ≤ N → (r).toInt = 0 ∨ (u.1 14).toInt = (s0.1 14).toInt → post r u) : wp_X7_goesAll_3 post s0 x1 := by
  unfold wp_X7_goesAll_3
  have := h104765.1
  have := h104765.2.1
  have := h104765.2.2.1
  have := h104765.2.2.2.1
  have p104769 : 0 < D := by omega
  have p104770 : 0 ≤ (s0.1 6).toInt ∧ (s0.1 6).toInt ≤ N := by omega
  have p104771 : (s0.1 14).toInt = 1 := by omega
  refine wq_X7_goesOne_3 h104765 p104769 p104770 p104771 (fun r_1 u_2 q104772 q104773 q104774 q104775 q104776 => ?_)
  have := q104772.1
  have := q104772.2.1
  refine ⟨fun c104777 => ?_, fun c104778 => ?_⟩
  · replace c104777 := q_neq c104777
    rw [li_0] at c104777
    have p104779 : 0 < D := by omega
    have p104780 : ie [1, 2, 6, 7, 8, 9, 10, 11, 12, 13, 14] u_2.1 u_2.1 := (ie_refl _ _)
    have p104781 : (u_2.1 14).toInt = 1 := by omega
    have p104782 : 0 ≤ ((u_2.1 6).toInt) ∧ ((u_2.1 6).toInt) ≤ (u_2.1 6).toInt ∧ (u_2.1 6).toInt ≤ N := by omega
    obtain ⟨f104783, g104784⟩ := fu_e 500
    have p104785 : N - (u_2.1 6).toInt < (f104783 : Int) := by (omega)
    refine ⟨f104783, wq_X7_goesAll_3_L10 p104779 (fun t0 z1 q104786 q104787 q104788 => ?_) (fun t0 z1 q104789 q104790 q104791 q104792 => ?_) f104783 _ _ q104772 p104780 p104781 p104782 p104785⟩
    · have := q104786.1
      have := q104786.2.1
      have p104793 : ie [1, 2, 6, 7, 8, 9, 10, 11, 12, 13, 14] t0.1 s0.1 := (ie_tr q104787 (by decide) (ie_tr q104773 (by decide) (ie_refl _ _)))
      have p104794 : (0 : Int32).toInt = 0 ∨ (0 : Int32).toInt = 1 := by (have := li_0; omega)
      have p104795 : (s0.1 6).toInt ≤ (t0.1 6).toInt ∧ (t0.1 6).toInt ≤ N := by omega
      have p104796 : (0 : Int32).toInt = 0 ∨ (t0.1 14).toInt = (s0.1 14).toInt := by (have := li_0; omega)
      exact k _ _ q104786 p104793 p104794 p104795 p104796
    · have := q104789.1
      have := q104789.2.1
      have p104797 : ie [1, 2, 6, 7, 8, 9, 10, 11, 12, 13, 14] t0.1 s0.1 := (ie_tr q104790 (by decide) (ie_tr q104773 (by decide) (ie_refl _ _)))
      have p104798 : (1 : Int32).toInt = 0 ∨ (1 : Int32).toInt = 1 := by (have := li_1; omega)
      have p104799 : (s0.1 6).toInt ≤ (t0.1 6).toInt ∧ (t0.1 6).toInt ≤ N := by omega
      have p104800 : (1 : Int32).toInt = 0 ∨ (t0.1 14).toInt = (s0.1 14).toInt := by (have := li_1; omega)
      exact k _ _ q104789 p104797 p104798 p104799 p104800
  · replace c104778 := q_eq c104778
    rw [li_0] at c104778
    have p104801 : ie [1, 2, 6, 7, 8, 9, 10, 11, 12, 13, 14] u_2.1 s0.1 := (ie_tr q104773 (by decide) (ie_refl _ _))
    have p104802 : (0 : Int32).toInt = 0 ∨ (0 : Int32).toInt = 1 := by (have := li_0; omega)
    have p104803 : (s0.1 6).toInt ≤ (u_2.1 6).toInt ∧ (u_2.1 6).toInt ≤ N := by omega
    have p104804 : (0 : Int32).toInt = 0 ∨ (u_2.1 14).toInt = (s0.1 14).toInt := by (have := li_0; omega)
    exact k _ _ q104772 p104801 p104802 p104803 p104804
theorem wq_X7_goesTimes_4_L90 {post : Int32 → Md → Prop} {e141 : Md → Int32 → Int32 → Int32 → Int32 → Int32 → Prop} {D N R W G : Int} {A : Nat → Int32} (h104805 : 0 < D) (ke141 : ∀ (t0 : Md) (z1 : Int32) (z2 : Int32) (z3 : Int32) (z4 : Int32) (z5 : Int32), mb (N) (R) (W) (D) t0 → ie [1, 2, 6, 7, 8, 9, 10, 11, 12, 13, 14] t0.1 A → (t0.1 14).toInt = 1 → (z4).toInt = G → 0 ≤ G ∧ G ≤ (t0.1 6).toInt ∧ (t0.1 6).toInt ≤ N → 0 ≤ (z5).toInt ∧ (z5).toInt ≤ 21 ∧ (z2).toInt ≤ 20 → e141 t0 z1 z2 z3 z4 z5) (k : ∀ (r : Int32) (u : Md), mb (N) (R) (W) (D) u → ie [1, 2, 6, 7, 8, 9, 10, 11, 12, 13, 14] u.1 A → (r).toInt = 0 → G ≤ (u.1 6).toInt ∧ (u.1 6).toInt ≤ N → post r u) : ∀ (n : Nat) (t0 : Md) (z1 : Int32) (z2 : Int32) (z3 : Int32) (z4 : Int32) (z5 : Int32), mb (N) (R) (W) (D) t0 → ie [1, 2, 6, 7, 8, 9, 10, 11, 12, 13, 14] t0.1 A → (t0.1 14).toInt = 1 → (z4).toInt = G → 0 ≤ G ∧ G ≤ (t0.1 6).toInt ∧ (t0.1 6).toInt ≤ N → 0 ≤ (z5).toInt ∧ (z5).toInt ≤ 21 ∧ (z2).toInt ≤ 20 → 21 - (z5).toInt < (n : Int) → wp_X7_goesTimes_4_L90 post e141 n t0 z1 z2 z3 z4 z5 := by
  intro n
  induction n with
  | zero =>
    intro t0 z1 z2 z3 z4 z5 i104806 i104807 i104808 i104809 i104810 i104811 i104812
    have := i104806.1
    have := i104806.2.1
    have := i104806.2.2.1
    have := i104806.2.2.2.1
    exfalso
    omega
  | succ n ih =>
    intro t0 z1 z2 z3 z4 z5 i104806 i104807 i104808 i104809 i104810 i104811 i104812
    unfold wp_X7_goesTimes_4_L90
    have := i104806.1
    have := i104806.2.1
    have := i104806.2.2.1
    have := i104806.2.2.2.1
    refine ⟨fun c104813 => ?_, fun c104814 => ?_⟩
    · replace c104813 := q_eq c104813
      rw [li_0] at c104813
      refine ⟨fun c104815 => ?_, fun c104816 => ?_⟩
      · replace c104815 := q_eq c104815
        rw [li_0] at c104815
        have : (t0.1 5).toInt = (A 5).toInt := ie_i i104807 5 (by decide)
        have p104817 : (t0.1 5).toInt = N := by omega
        have : (t0.1 0).toInt = (A 0).toInt := ie_i i104807 0 (by decide)
        have p104818 : 0 ≤ (t0.1 0).toInt ∧ (t0.1 0).toInt ≤ 10 := by omega
        have p104819 : 0 ≤ N ∧ N ≤ 400 := by omega
        have p104820 : 0 ≤ R ∧ R ≤ 6 ∧ 0 ≤ W ∧ W ≤ 10 ∧ 0 ≤ R * W ∧ R * W ≤ 40 ∧ 0 ≤ D ∧ D ≤ 4 ∧ (D ≤ 0 ∨ 1 ≤ R) ∧ (1 ≤ R ∨ R * W = 0) := by omega
        have B104821 : mb (N) (R) (W) (D) ((va_up t0.1 6 z4), t0.2.1, t0.2.2.1, t0.2.2.2) := ⟨p104817, p104818, p104819, p104820, i104806.2.2.2.2.1, i104806.2.2.2.2.2.1, i104806.2.2.2.2.2.2.1, i104806.2.2.2.2.2.2.2⟩
        have p104822 : 0 < D := by omega
        have p104823 : 0 ≤ (z4).toInt ∧ (z4).toInt ≤ N := by omega
        have p104824 : (t0.1 14).toInt = 1 := by omega
        refine wq_X7_goesAll_3 B104821 p104822 p104823 p104824 (fun r_14 u_15 q104825 q104826 q104827 q104828 q104829 => ?_)
        have := q104825.1
        have := q104825.2.1
        replace q104827 : (r_14).toInt = 0 ∨ (r_14).toInt = 1 := q104827
        replace q104828 : (z4).toInt ≤ (u_15.1 6).toInt ∧ (u_15.1 6).toInt ≤ N := q104828
        replace q104829 : (r_14).toInt = 0 ∨ (u_15.1 14).toInt = (t0.1 14).toInt := q104829
        refine ⟨fun c104830 => ?_, fun c104831 => ?_⟩
        · replace c104830 := q_neq c104830
          rw [li_0] at c104830
          have p104832 : ie [1, 2, 6, 7, 8, 9, 10, 11, 12, 13, 14] u_15.1 A := (ie_tr q104826 (by decide) (ie_up (ie_tr i104807 (by decide) (ie_refl _ _)) (by decide)))
          have p104833 : (u_15.1 14).toInt = 1 := by omega
          have p104834 : (z4).toInt = G := by omega
          have p104835 : 0 ≤ G ∧ G ≤ (u_15.1 6).toInt ∧ (u_15.1 6).toInt ≤ N := by omega
          have e104836 := tq_addr li_1 z5
          try rw [Int.emod_eq_of_lt (show 0 ≤ (z5).toInt + 1 + 2147483648 by omega) (show (z5).toInt + 1 + 2147483648 < 4294967296 by omega)] at e104836
          have p104837 : 0 ≤ (z5 + 1).toInt ∧ (z5 + 1).toInt ≤ 21 ∧ (z2).toInt ≤ 20 := by omega
          have p104838 : 21 - (z5 + 1).toInt < ((n : Nat) : Int) := by (omega)
          exact ih _ _ _ _ _ _ q104825 p104832 p104833 p104834 p104835 p104837 p104838
        · replace c104831 := q_eq c104831
          rw [li_0] at c104831
          have p104839 : ie [1, 2, 6, 7, 8, 9, 10, 11, 12, 13, 14] u_15.1 A := (ie_tr q104826 (by decide) (ie_up (ie_tr i104807 (by decide) (ie_refl _ _)) (by decide)))
          have p104840 : (0 : Int32).toInt = 0 := by (have := li_0; omega)
          have p104841 : G ≤ (u_15.1 6).toInt ∧ (u_15.1 6).toInt ≤ N := by omega
          exact k _ _ q104825 p104839 p104840 p104841
      · replace c104816 := q_neq c104816
        rw [li_0] at c104816
        refine ⟨fun c104842 => ?_, fun c104843 => ?_⟩
        · replace c104842 := q_le c104842
          have : (t0.1 5).toInt = (A 5).toInt := ie_i i104807 5 (by decide)
          have p104844 : (t0.1 5).toInt = N := by omega
          have : (t0.1 0).toInt = (A 0).toInt := ie_i i104807 0 (by decide)
          have p104845 : 0 ≤ (t0.1 0).toInt ∧ (t0.1 0).toInt ≤ 10 := by omega
          have p104846 : 0 ≤ N ∧ N ≤ 400 := by omega
          have p104847 : 0 ≤ R ∧ R ≤ 6 ∧ 0 ≤ W ∧ W ≤ 10 ∧ 0 ≤ R * W ∧ R * W ≤ 40 ∧ 0 ≤ D ∧ D ≤ 4 ∧ (D ≤ 0 ∨ 1 ≤ R) ∧ (1 ≤ R ∨ R * W = 0) := by omega
          have B104848 : mb (N) (R) (W) (D) ((va_up t0.1 6 z4), t0.2.1, t0.2.2.1, t0.2.2.2) := ⟨p104844, p104845, p104846, p104847, i104806.2.2.2.2.1, i104806.2.2.2.2.2.1, i104806.2.2.2.2.2.2.1, i104806.2.2.2.2.2.2.2⟩
          have p104849 : 0 < D := by omega
          have p104850 : 0 ≤ (z4).toInt ∧ (z4).toInt ≤ N := by omega
          have p104851 : (t0.1 14).toInt = 1 := by omega
          refine wq_X7_goesAll_3 B104848 p104849 p104850 p104851 (fun r_18 u_19 q104852 q104853 q104854 q104855 q104856 => ?_)
          have := q104852.1
          have := q104852.2.1
          replace q104854 : (r_18).toInt = 0 ∨ (r_18).toInt = 1 := q104854
          replace q104855 : (z4).toInt ≤ (u_19.1 6).toInt ∧ (u_19.1 6).toInt ≤ N := q104855
          replace q104856 : (r_18).toInt = 0 ∨ (u_19.1 14).toInt = (t0.1 14).toInt := q104856
          refine ⟨fun c104857 => ?_, fun c104858 => ?_⟩
          · replace c104857 := q_neq c104857
            rw [li_0] at c104857
            have p104859 : ie [1, 2, 6, 7, 8, 9, 10, 11, 12, 13, 14] u_19.1 A := (ie_tr q104853 (by decide) (ie_up (ie_tr i104807 (by decide) (ie_refl _ _)) (by decide)))
            have p104860 : (u_19.1 14).toInt = 1 := by omega
            have p104861 : (z4).toInt = G := by omega
            have p104862 : 0 ≤ G ∧ G ≤ (u_19.1 6).toInt ∧ (u_19.1 6).toInt ≤ N := by omega
            have e104863 := tq_addr li_1 z5
            try rw [Int.emod_eq_of_lt (show 0 ≤ (z5).toInt + 1 + 2147483648 by omega) (show (z5).toInt + 1 + 2147483648 < 4294967296 by omega)] at e104863
            have p104864 : 0 ≤ (z5 + 1).toInt ∧ (z5 + 1).toInt ≤ 21 ∧ (z2).toInt ≤ 20 := by omega
            have p104865 : 21 - (z5 + 1).toInt < ((n : Nat) : Int) := by (omega)
            exact ih _ _ _ _ _ _ q104852 p104859 p104860 p104861 p104862 p104864 p104865
          · replace c104858 := q_eq c104858
            rw [li_0] at c104858
            have p104866 : ie [1, 2, 6, 7, 8, 9, 10, 11, 12, 13, 14] u_19.1 A := (ie_tr q104853 (by decide) (ie_up (ie_tr i104807 (by decide) (ie_refl _ _)) (by decide)))
            have p104867 : (0 : Int32).toInt = 0 := by (have := li_0; omega)
            have p104868 : G ≤ (u_19.1 6).toInt ∧ (u_19.1 6).toInt ≤ N := by omega
            exact k _ _ q104852 p104866 p104867 p104868
        · replace c104843 := q_nle c104843
          have : (t0.1 5).toInt = (A 5).toInt := ie_i i104807 5 (by decide)
          have p104869 : (t0.1 5).toInt = N := by omega
          have : (t0.1 0).toInt = (A 0).toInt := ie_i i104807 0 (by decide)
          have p104870 : 0 ≤ (t0.1 0).toInt ∧ (t0.1 0).toInt ≤ 10 := by omega
          have p104871 : 0 ≤ N ∧ N ≤ 400 := by omega
          have p104872 : 0 ≤ R ∧ R ≤ 6 ∧ 0 ≤ W ∧ W ≤ 10 ∧ 0 ≤ R * W ∧ R * W ≤ 40 ∧ 0 ≤ D ∧ D ≤ 4 ∧ (D ≤ 0 ∨ 1 ≤ R) ∧ (1 ≤ R ∨ R * W = 0) := by omega
          have B104873 : mb (N) (R) (W) (D) ((va_up t0.1 6 z4), t0.2.1, t0.2.2.1, t0.2.2.2) := ⟨p104869, p104870, p104871, p104872, i104806.2.2.2.2.1, i104806.2.2.2.2.2.1, i104806.2.2.2.2.2.2.1, i104806.2.2.2.2.2.2.2⟩
          have p104874 : 0 < D := by omega
          have p104875 : 0 ≤ (z4).toInt ∧ (z4).toInt ≤ N := by omega
          have p104876 : (t0.1 14).toInt = 1 := by omega
          refine wq_X7_goesAll_3 B104873 p104874 p104875 p104876 (fun r_21 u_22 q104877 q104878 q104879 q104880 q104881 => ?_)
          have := q104877.1
          have := q104877.2.1
          replace q104879 : (r_21).toInt = 0 ∨ (r_21).toInt = 1 := q104879
          replace q104880 : (z4).toInt ≤ (u_22.1 6).toInt ∧ (u_22.1 6).toInt ≤ N := q104880
          replace q104881 : (r_21).toInt = 0 ∨ (u_22.1 14).toInt = (t0.1 14).toInt := q104881
          refine ⟨fun c104882 => ?_, fun c104883 => ?_⟩
          · replace c104882 := q_neq c104882
            rw [li_0] at c104882
            have p104884 : ie [1, 2, 6, 7, 8, 9, 10, 11, 12, 13, 14] u_22.1 A := (ie_tr q104878 (by decide) (ie_up (ie_tr i104807 (by decide) (ie_refl _ _)) (by decide)))
            have p104885 : (u_22.1 14).toInt = 1 := by omega
            have p104886 : (z4).toInt = G := by omega
            have p104887 : 0 ≤ G ∧ G ≤ (u_22.1 6).toInt ∧ (u_22.1 6).toInt ≤ N := by omega
            have e104888 := tq_addr li_1 z5
            try rw [Int.emod_eq_of_lt (show 0 ≤ (z5).toInt + 1 + 2147483648 by omega) (show (z5).toInt + 1 + 2147483648 < 4294967296 by omega)] at e104888
            have p104889 : 0 ≤ (z5 + 1).toInt ∧ (z5 + 1).toInt ≤ 21 ∧ (z2).toInt ≤ 20 := by omega
            have p104890 : 21 - (z5 + 1).toInt < ((n : Nat) : Int) := by (omega)
            exact ih _ _ _ _ _ _ q104877 p104884 p104885 p104886 p104887 p104889 p104890
          · replace c104883 := q_eq c104883
            rw [li_0] at c104883
            have p104891 : ie [1, 2, 6, 7, 8, 9, 10, 11, 12, 13, 14] u_22.1 A := (ie_tr q104878 (by decide) (ie_up (ie_tr i104807 (by decide) (ie_refl _ _)) (by decide)))
            have p104892 : (0 : Int32).toInt = 0 := by (have := li_0; omega)
            have p104893 : G ≤ (u_22.1 6).toInt ∧ (u_22.1 6).toInt ≤ N := by omega
            exact k _ _ q104877 p104891 p104892 p104893
    · replace c104814 := q_neq c104814
      rw [li_0] at c104814
      refine ⟨fun c104894 => ?_, fun c104895 => ?_⟩
      · replace c104894 := q_le c104894
        have p104896 : ie [1, 2, 6, 7, 8, 9, 10, 11, 12, 13, 14] t0.1 A := (ie_tr i104807 (by decide) (ie_refl _ _))
        have p104897 : (t0.1 14).toInt = 1 := by omega
        have p104898 : (z4).toInt = G := by omega
        have p104899 : 0 ≤ G ∧ G ≤ (t0.1 6).toInt ∧ (t0.1 6).toInt ≤ N := by omega
        have p104900 : 0 ≤ (z5).toInt ∧ (z5).toInt ≤ 21 ∧ (z2).toInt ≤ 20 := by omega
        exact ke141 _ _ _ _ _ _ i104806 p104896 p104897 p104898 p104899 p104900
      · replace c104895 := q_nle c104895
        refine ⟨fun c104901 => ?_, fun c104902 => ?_⟩
        · replace c104901 := q_eq c104901
          rw [li_0] at c104901
          have p104903 : ie [1, 2, 6, 7, 8, 9, 10, 11, 12, 13, 14] t0.1 A := (ie_tr i104807 (by decide) (ie_refl _ _))
          have p104904 : (t0.1 14).toInt = 1 := by omega
          have p104905 : (z4).toInt = G := by omega
          have p104906 : 0 ≤ G ∧ G ≤ (t0.1 6).toInt ∧ (t0.1 6).toInt ≤ N := by omega
          have p104907 : 0 ≤ (z5).toInt ∧ (z5).toInt ≤ 21 ∧ (z2).toInt ≤ 20 := by omega
          exact ke141 _ _ _ _ _ _ i104806 p104903 p104904 p104905 p104906 p104907
        · replace c104902 := q_neq c104902
          rw [li_0] at c104902
          refine ⟨fun c104908 => ?_, fun c104909 => ?_⟩
          · replace c104908 := q_eq c104908
            rw [li_0] at c104908
            have : (t0.1 5).toInt = (A 5).toInt := ie_i i104807 5 (by decide)
            have p104910 : (t0.1 5).toInt = N := by omega
            have : (t0.1 0).toInt = (A 0).toInt := ie_i i104807 0 (by decide)
            have p104911 : 0 ≤ (t0.1 0).toInt ∧ (t0.1 0).toInt ≤ 10 := by omega
            have p104912 : 0 ≤ N ∧ N ≤ 400 := by omega
            have p104913 : 0 ≤ R ∧ R ≤ 6 ∧ 0 ≤ W ∧ W ≤ 10 ∧ 0 ≤ R * W ∧ R * W ≤ 40 ∧ 0 ≤ D ∧ D ≤ 4 ∧ (D ≤ 0 ∨ 1 ≤ R) ∧ (1 ≤ R ∨ R * W = 0) := by omega
            have B104914 : mb (N) (R) (W) (D) ((va_up t0.1 6 z4), t0.2.1, t0.2.2.1, t0.2.2.2) := ⟨p104910, p104911, p104912, p104913, i104806.2.2.2.2.1, i104806.2.2.2.2.2.1, i104806.2.2.2.2.2.2.1, i104806.2.2.2.2.2.2.2⟩
            have p104915 : 0 < D := by omega
            have p104916 : 0 ≤ (z4).toInt ∧ (z4).toInt ≤ N := by omega
            have p104917 : (t0.1 14).toInt = 1 := by omega
            refine wq_X7_goesAll_3 B104914 p104915 p104916 p104917 (fun r_27 u_28 q104918 q104919 q104920 q104921 q104922 => ?_)
            have := q104918.1
            have := q104918.2.1
            replace q104920 : (r_27).toInt = 0 ∨ (r_27).toInt = 1 := q104920
            replace q104921 : (z4).toInt ≤ (u_28.1 6).toInt ∧ (u_28.1 6).toInt ≤ N := q104921
            replace q104922 : (r_27).toInt = 0 ∨ (u_28.1 14).toInt = (t0.1 14).toInt := q104922
            refine ⟨fun c104923 => ?_, fun c104924 => ?_⟩
            · replace c104923 := q_neq c104923
              rw [li_0] at c104923
              have p104925 : ie [1, 2, 6, 7, 8, 9, 10, 11, 12, 13, 14] u_28.1 A := (ie_tr q104919 (by decide) (ie_up (ie_tr i104807 (by decide) (ie_refl _ _)) (by decide)))
              have p104926 : (u_28.1 14).toInt = 1 := by omega
              have p104927 : (z4).toInt = G := by omega
              have p104928 : 0 ≤ G ∧ G ≤ (u_28.1 6).toInt ∧ (u_28.1 6).toInt ≤ N := by omega
              have e104929 := tq_addr li_1 z5
              try rw [Int.emod_eq_of_lt (show 0 ≤ (z5).toInt + 1 + 2147483648 by omega) (show (z5).toInt + 1 + 2147483648 < 4294967296 by omega)] at e104929
              have p104930 : 0 ≤ (z5 + 1).toInt ∧ (z5 + 1).toInt ≤ 21 ∧ (z2).toInt ≤ 20 := by omega
              have p104931 : 21 - (z5 + 1).toInt < ((n : Nat) : Int) := by (omega)
              exact ih _ _ _ _ _ _ q104918 p104925 p104926 p104927 p104928 p104930 p104931
            · replace c104924 := q_eq c104924
              rw [li_0] at c104924
              have p104932 : ie [1, 2, 6, 7, 8, 9, 10, 11, 12, 13, 14] u_28.1 A := (ie_tr q104919 (by decide) (ie_up (ie_tr i104807 (by decide) (ie_refl _ _)) (by decide)))
              have p104933 : (0 : Int32).toInt = 0 := by (have := li_0; omega)
              have p104934 : G ≤ (u_28.1 6).toInt ∧ (u_28.1 6).toInt ≤ N := by omega
              exact k _ _ q104918 p104932 p104933 p104934
          · replace c104909 := q_neq c104909
            rw [li_0] at c104909
            refine ⟨fun c104935 => ?_, fun c104936 => ?_⟩
            · replace c104935 := q_le c104935
              have : (t0.1 5).toInt = (A 5).toInt := ie_i i104807 5 (by decide)
              have p104937 : (t0.1 5).toInt = N := by omega
              have : (t0.1 0).toInt = (A 0).toInt := ie_i i104807 0 (by decide)
              have p104938 : 0 ≤ (t0.1 0).toInt ∧ (t0.1 0).toInt ≤ 10 := by omega
              have p104939 : 0 ≤ N ∧ N ≤ 400 := by omega
              have p104940 : 0 ≤ R ∧ R ≤ 6 ∧ 0 ≤ W ∧ W ≤ 10 ∧ 0 ≤ R * W ∧ R * W ≤ 40 ∧ 0 ≤ D ∧ D ≤ 4 ∧ (D ≤ 0 ∨ 1 ≤ R) ∧ (1 ≤ R ∨ R * W = 0) := by omega
              have B104941 : mb (N) (R) (W) (D) ((va_up t0.1 6 z4), t0.2.1, t0.2.2.1, t0.2.2.2) := ⟨p104937, p104938, p104939, p104940, i104806.2.2.2.2.1, i104806.2.2.2.2.2.1, i104806.2.2.2.2.2.2.1, i104806.2.2.2.2.2.2.2⟩
              have p104942 : 0 < D := by omega
              have p104943 : 0 ≤ (z4).toInt ∧ (z4).toInt ≤ N := by omega
              have p104944 : (t0.1 14).toInt = 1 := by omega
              refine wq_X7_goesAll_3 B104941 p104942 p104943 p104944 (fun r_31 u_32 q104945 q104946 q104947 q104948 q104949 => ?_)
              have := q104945.1
              have := q104945.2.1
              replace q104947 : (r_31).toInt = 0 ∨ (r_31).toInt = 1 := q104947
              replace q104948 : (z4).toInt ≤ (u_32.1 6).toInt ∧ (u_32.1 6).toInt ≤ N := q104948
              replace q104949 : (r_31).toInt = 0 ∨ (u_32.1 14).toInt = (t0.1 14).toInt := q104949
              refine ⟨fun c104950 => ?_, fun c104951 => ?_⟩
              · replace c104950 := q_neq c104950
                rw [li_0] at c104950
                have p104952 : ie [1, 2, 6, 7, 8, 9, 10, 11, 12, 13, 14] u_32.1 A := (ie_tr q104946 (by decide) (ie_up (ie_tr i104807 (by decide) (ie_refl _ _)) (by decide)))
                have p104953 : (u_32.1 14).toInt = 1 := by omega
                have p104954 : (z4).toInt = G := by omega
                have p104955 : 0 ≤ G ∧ G ≤ (u_32.1 6).toInt ∧ (u_32.1 6).toInt ≤ N := by omega
                have e104956 := tq_addr li_1 z5
                try rw [Int.emod_eq_of_lt (show 0 ≤ (z5).toInt + 1 + 2147483648 by omega) (show (z5).toInt + 1 + 2147483648 < 4294967296 by omega)] at e104956
                have p104957 : 0 ≤ (z5 + 1).toInt ∧ (z5 + 1).toInt ≤ 21 ∧ (z2).toInt ≤ 20 := by omega
                have p104958 : 21 - (z5 + 1).toInt < ((n : Nat) : Int) := by (omega)
                exact ih _ _ _ _ _ _ q104945 p104952 p104953 p104954 p104955 p104957 p104958
              · replace c104951 := q_eq c104951
                rw [li_0] at c104951
                have p104959 : ie [1, 2, 6, 7, 8, 9, 10, 11, 12, 13, 14] u_32.1 A := (ie_tr q104946 (by decide) (ie_up (ie_tr i104807 (by decide) (ie_refl _ _)) (by decide)))
                have p104960 : (0 : Int32).toInt = 0 := by (have := li_0; omega)
                have p104961 : G ≤ (u_32.1 6).toInt ∧ (u_32.1 6).toInt ≤ N := by omega
                exact k _ _ q104945 p104959 p104960 p104961
            · replace c104936 := q_nle c104936
              have : (t0.1 5).toInt = (A 5).toInt := ie_i i104807 5 (by decide)
              have p104962 : (t0.1 5).toInt = N := by omega
              have : (t0.1 0).toInt = (A 0).toInt := ie_i i104807 0 (by decide)
              have p104963 : 0 ≤ (t0.1 0).toInt ∧ (t0.1 0).toInt ≤ 10 := by omega
              have p104964 : 0 ≤ N ∧ N ≤ 400 := by omega
              have p104965 : 0 ≤ R ∧ R ≤ 6 ∧ 0 ≤ W ∧ W ≤ 10 ∧ 0 ≤ R * W ∧ R * W ≤ 40 ∧ 0 ≤ D ∧ D ≤ 4 ∧ (D ≤ 0 ∨ 1 ≤ R) ∧ (1 ≤ R ∨ R * W = 0) := by omega
              have B104966 : mb (N) (R) (W) (D) ((va_up t0.1 6 z4), t0.2.1, t0.2.2.1, t0.2.2.2) := ⟨p104962, p104963, p104964, p104965, i104806.2.2.2.2.1, i104806.2.2.2.2.2.1, i104806.2.2.2.2.2.2.1, i104806.2.2.2.2.2.2.2⟩
              have p104967 : 0 < D := by omega
              have p104968 : 0 ≤ (z4).toInt ∧ (z4).toInt ≤ N := by omega
              have p104969 : (t0.1 14).toInt = 1 := by omega
              refine wq_X7_goesAll_3 B104966 p104967 p104968 p104969 (fun r_34 u_35 q104970 q104971 q104972 q104973 q104974 => ?_)
              have := q104970.1
              have := q104970.2.1
              replace q104972 : (r_34).toInt = 0 ∨ (r_34).toInt = 1 := q104972
              replace q104973 : (z4).toInt ≤ (u_35.1 6).toInt ∧ (u_35.1 6).toInt ≤ N := q104973
              replace q104974 : (r_34).toInt = 0 ∨ (u_35.1 14).toInt = (t0.1 14).toInt := q104974
              refine ⟨fun c104975 => ?_, fun c104976 => ?_⟩
              · replace c104975 := q_neq c104975
                rw [li_0] at c104975
                have p104977 : ie [1, 2, 6, 7, 8, 9, 10, 11, 12, 13, 14] u_35.1 A := (ie_tr q104971 (by decide) (ie_up (ie_tr i104807 (by decide) (ie_refl _ _)) (by decide)))
                have p104978 : (u_35.1 14).toInt = 1 := by omega
                have p104979 : (z4).toInt = G := by omega
                have p104980 : 0 ≤ G ∧ G ≤ (u_35.1 6).toInt ∧ (u_35.1 6).toInt ≤ N := by omega
                have e104981 := tq_addr li_1 z5
                try rw [Int.emod_eq_of_lt (show 0 ≤ (z5).toInt + 1 + 2147483648 by omega) (show (z5).toInt + 1 + 2147483648 < 4294967296 by omega)] at e104981
                have p104982 : 0 ≤ (z5 + 1).toInt ∧ (z5 + 1).toInt ≤ 21 ∧ (z2).toInt ≤ 20 := by omega
                have p104983 : 21 - (z5 + 1).toInt < ((n : Nat) : Int) := by (omega)
                exact ih _ _ _ _ _ _ q104970 p104977 p104978 p104979 p104980 p104982 p104983
              · replace c104976 := q_eq c104976
                rw [li_0] at c104976
                have p104984 : ie [1, 2, 6, 7, 8, 9, 10, 11, 12, 13, 14] u_35.1 A := (ie_tr q104971 (by decide) (ie_up (ie_tr i104807 (by decide) (ie_refl _ _)) (by decide)))
                have p104985 : (0 : Int32).toInt = 0 := by (have := li_0; omega)
                have p104986 : G ≤ (u_35.1 6).toInt ∧ (u_35.1 6).toInt ≤ N := by omega
                exact k _ _ q104970 p104984 p104985 p104986
theorem wq_X7_goesTimes_4_L90b {post : Int32 → Md → Prop} {e141 : Md → Int32 → Int32 → Int32 → Int32 → Int32 → Prop} {D N R W G : Int} {A : Nat → Int32} (h104987 : 0 < D) (ke141 : ∀ (t0 : Md) (z1 : Int32) (z2 : Int32) (z3 : Int32) (z4 : Int32) (z5 : Int32), mb (N) (R) (W) (D) t0 → ie [1, 2, 6, 7, 8, 9, 10, 11, 12, 13, 14] t0.1 A → (t0.1 14).toInt = 1 → (z4).toInt = G → 0 ≤ G ∧ G ≤ (t0.1 6).toInt ∧ (t0.1 6).toInt ≤ N → 0 ≤ (z5).toInt ∧ (z5).toInt ≤ 21 ∧ (z2).toInt ≤ 20 → e141 t0 z1 z2 z3 z4 z5) (k : ∀ (r : Int32) (u : Md), mb (N) (R) (W) (D) u → ie [1, 2, 6, 7, 8, 9, 10, 11, 12, 13, 14] u.1 A → (r).toInt = 0 → G ≤ (u.1 6).toInt ∧ (u.1 6).toInt ≤ N → post r u) : ∀ (n : Nat) (t0 : Md) (z1 : Int32) (z2 : Int32) (z3 : Int32) (z4 : Int32) (z5 : Int32), mb (N) (R) (W) (D) t0 → ie [1, 2, 6, 7, 8, 9, 10, 11, 12, 13, 14] t0.1 A → (t0.1 14).toInt = 1 → (z4).toInt = G → 0 ≤ G ∧ G ≤ (t0.1 6).toInt ∧ (t0.1 6).toInt ≤ N → 0 ≤ (z5).toInt ∧ (z5).toInt ≤ 21 ∧ (z2).toInt ≤ 20 → 21 - (z5).toInt < (n : Int) → wp_X7_goesTimes_4_L90b post e141 n t0 z1 z2 z3 z4 z5 := by
  intro n
  induction n with
  | zero =>
    intro t0 z1 z2 z3 z4 z5 i104988 i104989 i104990 i104991 i104992 i104993 i104994
    have := i104988.1
    have := i104988.2.1
    have := i104988.2.2.1
    have := i104988.2.2.2.1
    exfalso
    omega
  | succ n ih =>
    intro t0 z1 z2 z3 z4 z5 i104988 i104989 i104990 i104991 i104992 i104993 i104994
    unfold wp_X7_goesTimes_4_L90b
    have := i104988.1
    have := i104988.2.1
    have := i104988.2.2.1
    have := i104988.2.2.2.1
    refine ⟨fun c104995 => ?_, fun c104996 => ?_⟩
    · replace c104995 := q_eq c104995
      rw [li_0] at c104995
      refine ⟨fun c104997 => ?_, fun c104998 => ?_⟩
      · replace c104997 := q_eq c104997
        rw [li_0] at c104997
        have : (t0.1 5).toInt = (A 5).toInt := ie_i i104989 5 (by decide)
        have p104999 : (t0.1 5).toInt = N := by omega
        have : (t0.1 0).toInt = (A 0).toInt := ie_i i104989 0 (by decide)
        have p105000 : 0 ≤ (t0.1 0).toInt ∧ (t0.1 0).toInt ≤ 10 := by omega
        have p105001 : 0 ≤ N ∧ N ≤ 400 := by omega
        have p105002 : 0 ≤ R ∧ R ≤ 6 ∧ 0 ≤ W ∧ W ≤ 10 ∧ 0 ≤ R * W ∧ R * W ≤ 40 ∧ 0 ≤ D ∧ D ≤ 4 ∧ (D ≤ 0 ∨ 1 ≤ R) ∧ (1 ≤ R ∨ R * W = 0) := by omega
        have B105003 : mb (N) (R) (W) (D) ((va_up t0.1 6 z4), t0.2.1, t0.2.2.1, t0.2.2.2) := ⟨p104999, p105000, p105001, p105002, i104988.2.2.2.2.1, i104988.2.2.2.2.2.1, i104988.2.2.2.2.2.2.1, i104988.2.2.2.2.2.2.2⟩
        have p105004 : 0 < D := by omega
        have p105005 : 0 ≤ (z4).toInt ∧ (z4).toInt ≤ N := by omega
        have p105006 : (t0.1 14).toInt = 1 := by omega
        refine wq_X7_goesAll_3 B105003 p105004 p105005 p105006 (fun r_48 u_49 q105007 q105008 q105009 q105010 q105011 => ?_)
        have := q105007.1
        have := q105007.2.1
        replace q105009 : (r_48).toInt = 0 ∨ (r_48).toInt = 1 := q105009
        replace q105010 : (z4).toInt ≤ (u_49.1 6).toInt ∧ (u_49.1 6).toInt ≤ N := q105010
        replace q105011 : (r_48).toInt = 0 ∨ (u_49.1 14).toInt = (t0.1 14).toInt := q105011
        refine ⟨fun c105012 => ?_, fun c105013 => ?_⟩
        · replace c105012 := q_neq c105012
          rw [li_0] at c105012
          have p105014 : ie [1, 2, 6, 7, 8, 9, 10, 11, 12, 13, 14] u_49.1 A := (ie_tr q105008 (by decide) (ie_up (ie_tr i104989 (by decide) (ie_refl _ _)) (by decide)))
          have p105015 : (u_49.1 14).toInt = 1 := by omega
          have p105016 : (z4).toInt = G := by omega
          have p105017 : 0 ≤ G ∧ G ≤ (u_49.1 6).toInt ∧ (u_49.1 6).toInt ≤ N := by omega
          have e105018 := tq_addr li_1 z5
          try rw [Int.emod_eq_of_lt (show 0 ≤ (z5).toInt + 1 + 2147483648 by omega) (show (z5).toInt + 1 + 2147483648 < 4294967296 by omega)] at e105018
          have p105019 : 0 ≤ (z5 + 1).toInt ∧ (z5 + 1).toInt ≤ 21 ∧ (z2).toInt ≤ 20 := by omega
          have p105020 : 21 - (z5 + 1).toInt < ((n : Nat) : Int) := by (omega)
          exact ih _ _ _ _ _ _ q105007 p105014 p105015 p105016 p105017 p105019 p105020
        · replace c105013 := q_eq c105013
          rw [li_0] at c105013
          have p105021 : ie [1, 2, 6, 7, 8, 9, 10, 11, 12, 13, 14] u_49.1 A := (ie_tr q105008 (by decide) (ie_up (ie_tr i104989 (by decide) (ie_refl _ _)) (by decide)))
          have p105022 : (0 : Int32).toInt = 0 := by (have := li_0; omega)
          have p105023 : G ≤ (u_49.1 6).toInt ∧ (u_49.1 6).toInt ≤ N := by omega
          exact k _ _ q105007 p105021 p105022 p105023
      · replace c104998 := q_neq c104998
        rw [li_0] at c104998
        refine ⟨fun c105024 => ?_, fun c105025 => ?_⟩
        · replace c105024 := q_le c105024
          have : (t0.1 5).toInt = (A 5).toInt := ie_i i104989 5 (by decide)
          have p105026 : (t0.1 5).toInt = N := by omega
          have : (t0.1 0).toInt = (A 0).toInt := ie_i i104989 0 (by decide)
          have p105027 : 0 ≤ (t0.1 0).toInt ∧ (t0.1 0).toInt ≤ 10 := by omega
          have p105028 : 0 ≤ N ∧ N ≤ 400 := by omega
          have p105029 : 0 ≤ R ∧ R ≤ 6 ∧ 0 ≤ W ∧ W ≤ 10 ∧ 0 ≤ R * W ∧ R * W ≤ 40 ∧ 0 ≤ D ∧ D ≤ 4 ∧ (D ≤ 0 ∨ 1 ≤ R) ∧ (1 ≤ R ∨ R * W = 0) := by omega
          have B105030 : mb (N) (R) (W) (D) ((va_up t0.1 6 z4), t0.2.1, t0.2.2.1, t0.2.2.2) := ⟨p105026, p105027, p105028, p105029, i104988.2.2.2.2.1, i104988.2.2.2.2.2.1, i104988.2.2.2.2.2.2.1, i104988.2.2.2.2.2.2.2⟩
          have p105031 : 0 < D := by omega
          have p105032 : 0 ≤ (z4).toInt ∧ (z4).toInt ≤ N := by omega
          have p105033 : (t0.1 14).toInt = 1 := by omega
          refine wq_X7_goesAll_3 B105030 p105031 p105032 p105033 (fun r_52 u_53 q105034 q105035 q105036 q105037 q105038 => ?_)
          have := q105034.1
          have := q105034.2.1
          replace q105036 : (r_52).toInt = 0 ∨ (r_52).toInt = 1 := q105036
          replace q105037 : (z4).toInt ≤ (u_53.1 6).toInt ∧ (u_53.1 6).toInt ≤ N := q105037
          replace q105038 : (r_52).toInt = 0 ∨ (u_53.1 14).toInt = (t0.1 14).toInt := q105038
          refine ⟨fun c105039 => ?_, fun c105040 => ?_⟩
          · replace c105039 := q_neq c105039
            rw [li_0] at c105039
            have p105041 : ie [1, 2, 6, 7, 8, 9, 10, 11, 12, 13, 14] u_53.1 A := (ie_tr q105035 (by decide) (ie_up (ie_tr i104989 (by decide) (ie_refl _ _)) (by decide)))
            have p105042 : (u_53.1 14).toInt = 1 := by omega
            have p105043 : (z4).toInt = G := by omega
            have p105044 : 0 ≤ G ∧ G ≤ (u_53.1 6).toInt ∧ (u_53.1 6).toInt ≤ N := by omega
            have e105045 := tq_addr li_1 z5
            try rw [Int.emod_eq_of_lt (show 0 ≤ (z5).toInt + 1 + 2147483648 by omega) (show (z5).toInt + 1 + 2147483648 < 4294967296 by omega)] at e105045
            have p105046 : 0 ≤ (z5 + 1).toInt ∧ (z5 + 1).toInt ≤ 21 ∧ (z2).toInt ≤ 20 := by omega
            have p105047 : 21 - (z5 + 1).toInt < ((n : Nat) : Int) := by (omega)
            exact ih _ _ _ _ _ _ q105034 p105041 p105042 p105043 p105044 p105046 p105047
          · replace c105040 := q_eq c105040
            rw [li_0] at c105040
            have p105048 : ie [1, 2, 6, 7, 8, 9, 10, 11, 12, 13, 14] u_53.1 A := (ie_tr q105035 (by decide) (ie_up (ie_tr i104989 (by decide) (ie_refl _ _)) (by decide)))
            have p105049 : (0 : Int32).toInt = 0 := by (have := li_0; omega)
            have p105050 : G ≤ (u_53.1 6).toInt ∧ (u_53.1 6).toInt ≤ N := by omega
            exact k _ _ q105034 p105048 p105049 p105050
        · replace c105025 := q_nle c105025
          have : (t0.1 5).toInt = (A 5).toInt := ie_i i104989 5 (by decide)
          have p105051 : (t0.1 5).toInt = N := by omega
          have : (t0.1 0).toInt = (A 0).toInt := ie_i i104989 0 (by decide)
          have p105052 : 0 ≤ (t0.1 0).toInt ∧ (t0.1 0).toInt ≤ 10 := by omega
          have p105053 : 0 ≤ N ∧ N ≤ 400 := by omega
          have p105054 : 0 ≤ R ∧ R ≤ 6 ∧ 0 ≤ W ∧ W ≤ 10 ∧ 0 ≤ R * W ∧ R * W ≤ 40 ∧ 0 ≤ D ∧ D ≤ 4 ∧ (D ≤ 0 ∨ 1 ≤ R) ∧ (1 ≤ R ∨ R * W = 0) := by omega
          have B105055 : mb (N) (R) (W) (D) ((va_up t0.1 6 z4), t0.2.1, t0.2.2.1, t0.2.2.2) := ⟨p105051, p105052, p105053, p105054, i104988.2.2.2.2.1, i104988.2.2.2.2.2.1, i104988.2.2.2.2.2.2.1, i104988.2.2.2.2.2.2.2⟩
          have p105056 : 0 < D := by omega
          have p105057 : 0 ≤ (z4).toInt ∧ (z4).toInt ≤ N := by omega
          have p105058 : (t0.1 14).toInt = 1 := by omega
          refine wq_X7_goesAll_3 B105055 p105056 p105057 p105058 (fun r_55 u_56 q105059 q105060 q105061 q105062 q105063 => ?_)
          have := q105059.1
          have := q105059.2.1
          replace q105061 : (r_55).toInt = 0 ∨ (r_55).toInt = 1 := q105061
          replace q105062 : (z4).toInt ≤ (u_56.1 6).toInt ∧ (u_56.1 6).toInt ≤ N := q105062
          replace q105063 : (r_55).toInt = 0 ∨ (u_56.1 14).toInt = (t0.1 14).toInt := q105063
          refine ⟨fun c105064 => ?_, fun c105065 => ?_⟩
          · replace c105064 := q_neq c105064
            rw [li_0] at c105064
            have p105066 : ie [1, 2, 6, 7, 8, 9, 10, 11, 12, 13, 14] u_56.1 A := (ie_tr q105060 (by decide) (ie_up (ie_tr i104989 (by decide) (ie_refl _ _)) (by decide)))
            have p105067 : (u_56.1 14).toInt = 1 := by omega
            have p105068 : (z4).toInt = G := by omega
            have p105069 : 0 ≤ G ∧ G ≤ (u_56.1 6).toInt ∧ (u_56.1 6).toInt ≤ N := by omega
            have e105070 := tq_addr li_1 z5
            try rw [Int.emod_eq_of_lt (show 0 ≤ (z5).toInt + 1 + 2147483648 by omega) (show (z5).toInt + 1 + 2147483648 < 4294967296 by omega)] at e105070
            have p105071 : 0 ≤ (z5 + 1).toInt ∧ (z5 + 1).toInt ≤ 21 ∧ (z2).toInt ≤ 20 := by omega
            have p105072 : 21 - (z5 + 1).toInt < ((n : Nat) : Int) := by (omega)
            exact ih _ _ _ _ _ _ q105059 p105066 p105067 p105068 p105069 p105071 p105072
          · replace c105065 := q_eq c105065
            rw [li_0] at c105065
            have p105073 : ie [1, 2, 6, 7, 8, 9, 10, 11, 12, 13, 14] u_56.1 A := (ie_tr q105060 (by decide) (ie_up (ie_tr i104989 (by decide) (ie_refl _ _)) (by decide)))
            have p105074 : (0 : Int32).toInt = 0 := by (have := li_0; omega)
            have p105075 : G ≤ (u_56.1 6).toInt ∧ (u_56.1 6).toInt ≤ N := by omega
            exact k _ _ q105059 p105073 p105074 p105075
    · replace c104996 := q_neq c104996
      rw [li_0] at c104996
      refine ⟨fun c105076 => ?_, fun c105077 => ?_⟩
      · replace c105076 := q_le c105076
        have p105078 : ie [1, 2, 6, 7, 8, 9, 10, 11, 12, 13, 14] t0.1 A := (ie_tr i104989 (by decide) (ie_refl _ _))
        have p105079 : (t0.1 14).toInt = 1 := by omega
        have p105080 : (z4).toInt = G := by omega
        have p105081 : 0 ≤ G ∧ G ≤ (t0.1 6).toInt ∧ (t0.1 6).toInt ≤ N := by omega
        have p105082 : 0 ≤ (z5).toInt ∧ (z5).toInt ≤ 21 ∧ (z2).toInt ≤ 20 := by omega
        exact ke141 _ _ _ _ _ _ i104988 p105078 p105079 p105080 p105081 p105082
      · replace c105077 := q_nle c105077
        refine ⟨fun c105083 => ?_, fun c105084 => ?_⟩
        · replace c105083 := q_eq c105083
          rw [li_0] at c105083
          have p105085 : ie [1, 2, 6, 7, 8, 9, 10, 11, 12, 13, 14] t0.1 A := (ie_tr i104989 (by decide) (ie_refl _ _))
          have p105086 : (t0.1 14).toInt = 1 := by omega
          have p105087 : (z4).toInt = G := by omega
          have p105088 : 0 ≤ G ∧ G ≤ (t0.1 6).toInt ∧ (t0.1 6).toInt ≤ N := by omega
          have p105089 : 0 ≤ (z5).toInt ∧ (z5).toInt ≤ 21 ∧ (z2).toInt ≤ 20 := by omega
          exact ke141 _ _ _ _ _ _ i104988 p105085 p105086 p105087 p105088 p105089
        · replace c105084 := q_neq c105084
          rw [li_0] at c105084
          refine ⟨fun c105090 => ?_, fun c105091 => ?_⟩
          · replace c105090 := q_eq c105090
            rw [li_0] at c105090
            have : (t0.1 5).toInt = (A 5).toInt := ie_i i104989 5 (by decide)
            have p105092 : (t0.1 5).toInt = N := by omega
            have : (t0.1 0).toInt = (A 0).toInt := ie_i i104989 0 (by decide)
            have p105093 : 0 ≤ (t0.1 0).toInt ∧ (t0.1 0).toInt ≤ 10 := by omega
            have p105094 : 0 ≤ N ∧ N ≤ 400 := by omega
            have p105095 : 0 ≤ R ∧ R ≤ 6 ∧ 0 ≤ W ∧ W ≤ 10 ∧ 0 ≤ R * W ∧ R * W ≤ 40 ∧ 0 ≤ D ∧ D ≤ 4 ∧ (D ≤ 0 ∨ 1 ≤ R) ∧ (1 ≤ R ∨ R * W = 0) := by omega
            have B105096 : mb (N) (R) (W) (D) ((va_up t0.1 6 z4), t0.2.1, t0.2.2.1, t0.2.2.2) := ⟨p105092, p105093, p105094, p105095, i104988.2.2.2.2.1, i104988.2.2.2.2.2.1, i104988.2.2.2.2.2.2.1, i104988.2.2.2.2.2.2.2⟩
            have p105097 : 0 < D := by omega
            have p105098 : 0 ≤ (z4).toInt ∧ (z4).toInt ≤ N := by omega
            have p105099 : (t0.1 14).toInt = 1 := by omega
            refine wq_X7_goesAll_3 B105096 p105097 p105098 p105099 (fun r_61 u_62 q105100 q105101 q105102 q105103 q105104 => ?_)
            have := q105100.1
            have := q105100.2.1
            replace q105102 : (r_61).toInt = 0 ∨ (r_61).toInt = 1 := q105102
            replace q105103 : (z4).toInt ≤ (u_62.1 6).toInt ∧ (u_62.1 6).toInt ≤ N := q105103
            replace q105104 : (r_61).toInt = 0 ∨ (u_62.1 14).toInt = (t0.1 14).toInt := q105104
            refine ⟨fun c105105 => ?_, fun c105106 => ?_⟩
            · replace c105105 := q_neq c105105
              rw [li_0] at c105105
              have p105107 : ie [1, 2, 6, 7, 8, 9, 10, 11, 12, 13, 14] u_62.1 A := (ie_tr q105101 (by decide) (ie_up (ie_tr i104989 (by decide) (ie_refl _ _)) (by decide)))
              have p105108 : (u_62.1 14).toInt = 1 := by omega
              have p105109 : (z4).toInt = G := by omega
              have p105110 : 0 ≤ G ∧ G ≤ (u_62.1 6).toInt ∧ (u_62.1 6).toInt ≤ N := by omega
              have e105111 := tq_addr li_1 z5
              try rw [Int.emod_eq_of_lt (show 0 ≤ (z5).toInt + 1 + 2147483648 by omega) (show (z5).toInt + 1 + 2147483648 < 4294967296 by omega)] at e105111
              have p105112 : 0 ≤ (z5 + 1).toInt ∧ (z5 + 1).toInt ≤ 21 ∧ (z2).toInt ≤ 20 := by omega
              have p105113 : 21 - (z5 + 1).toInt < ((n : Nat) : Int) := by (omega)
              exact ih _ _ _ _ _ _ q105100 p105107 p105108 p105109 p105110 p105112 p105113
            · replace c105106 := q_eq c105106
              rw [li_0] at c105106
              have p105114 : ie [1, 2, 6, 7, 8, 9, 10, 11, 12, 13, 14] u_62.1 A := (ie_tr q105101 (by decide) (ie_up (ie_tr i104989 (by decide) (ie_refl _ _)) (by decide)))
              have p105115 : (0 : Int32).toInt = 0 := by (have := li_0; omega)
              have p105116 : G ≤ (u_62.1 6).toInt ∧ (u_62.1 6).toInt ≤ N := by omega
              exact k _ _ q105100 p105114 p105115 p105116
          · replace c105091 := q_neq c105091
            rw [li_0] at c105091
            refine ⟨fun c105117 => ?_, fun c105118 => ?_⟩
            · replace c105117 := q_le c105117
              have : (t0.1 5).toInt = (A 5).toInt := ie_i i104989 5 (by decide)
              have p105119 : (t0.1 5).toInt = N := by omega
              have : (t0.1 0).toInt = (A 0).toInt := ie_i i104989 0 (by decide)
              have p105120 : 0 ≤ (t0.1 0).toInt ∧ (t0.1 0).toInt ≤ 10 := by omega
              have p105121 : 0 ≤ N ∧ N ≤ 400 := by omega
              have p105122 : 0 ≤ R ∧ R ≤ 6 ∧ 0 ≤ W ∧ W ≤ 10 ∧ 0 ≤ R * W ∧ R * W ≤ 40 ∧ 0 ≤ D ∧ D ≤ 4 ∧ (D ≤ 0 ∨ 1 ≤ R) ∧ (1 ≤ R ∨ R * W = 0) := by omega
              have B105123 : mb (N) (R) (W) (D) ((va_up t0.1 6 z4), t0.2.1, t0.2.2.1, t0.2.2.2) := ⟨p105119, p105120, p105121, p105122, i104988.2.2.2.2.1, i104988.2.2.2.2.2.1, i104988.2.2.2.2.2.2.1, i104988.2.2.2.2.2.2.2⟩
              have p105124 : 0 < D := by omega
              have p105125 : 0 ≤ (z4).toInt ∧ (z4).toInt ≤ N := by omega
              have p105126 : (t0.1 14).toInt = 1 := by omega
              refine wq_X7_goesAll_3 B105123 p105124 p105125 p105126 (fun r_65 u_66 q105127 q105128 q105129 q105130 q105131 => ?_)
              have := q105127.1
              have := q105127.2.1
              replace q105129 : (r_65).toInt = 0 ∨ (r_65).toInt = 1 := q105129
              replace q105130 : (z4).toInt ≤ (u_66.1 6).toInt ∧ (u_66.1 6).toInt ≤ N := q105130
              replace q105131 : (r_65).toInt = 0 ∨ (u_66.1 14).toInt = (t0.1 14).toInt := q105131
              refine ⟨fun c105132 => ?_, fun c105133 => ?_⟩
              · replace c105132 := q_neq c105132
                rw [li_0] at c105132
                have p105134 : ie [1, 2, 6, 7, 8, 9, 10, 11, 12, 13, 14] u_66.1 A := (ie_tr q105128 (by decide) (ie_up (ie_tr i104989 (by decide) (ie_refl _ _)) (by decide)))
                have p105135 : (u_66.1 14).toInt = 1 := by omega
                have p105136 : (z4).toInt = G := by omega
                have p105137 : 0 ≤ G ∧ G ≤ (u_66.1 6).toInt ∧ (u_66.1 6).toInt ≤ N := by omega
                have e105138 := tq_addr li_1 z5
                try rw [Int.emod_eq_of_lt (show 0 ≤ (z5).toInt + 1 + 2147483648 by omega) (show (z5).toInt + 1 + 2147483648 < 4294967296 by omega)] at e105138
                have p105139 : 0 ≤ (z5 + 1).toInt ∧ (z5 + 1).toInt ≤ 21 ∧ (z2).toInt ≤ 20 := by omega
                have p105140 : 21 - (z5 + 1).toInt < ((n : Nat) : Int) := by (omega)
                exact ih _ _ _ _ _ _ q105127 p105134 p105135 p105136 p105137 p105139 p105140
              · replace c105133 := q_eq c105133
                rw [li_0] at c105133
                have p105141 : ie [1, 2, 6, 7, 8, 9, 10, 11, 12, 13, 14] u_66.1 A := (ie_tr q105128 (by decide) (ie_up (ie_tr i104989 (by decide) (ie_refl _ _)) (by decide)))
                have p105142 : (0 : Int32).toInt = 0 := by (have := li_0; omega)
                have p105143 : G ≤ (u_66.1 6).toInt ∧ (u_66.1 6).toInt ≤ N := by omega
                exact k _ _ q105127 p105141 p105142 p105143
            · replace c105118 := q_nle c105118
              have : (t0.1 5).toInt = (A 5).toInt := ie_i i104989 5 (by decide)
              have p105144 : (t0.1 5).toInt = N := by omega
              have : (t0.1 0).toInt = (A 0).toInt := ie_i i104989 0 (by decide)
              have p105145 : 0 ≤ (t0.1 0).toInt ∧ (t0.1 0).toInt ≤ 10 := by omega
              have p105146 : 0 ≤ N ∧ N ≤ 400 := by omega
              have p105147 : 0 ≤ R ∧ R ≤ 6 ∧ 0 ≤ W ∧ W ≤ 10 ∧ 0 ≤ R * W ∧ R * W ≤ 40 ∧ 0 ≤ D ∧ D ≤ 4 ∧ (D ≤ 0 ∨ 1 ≤ R) ∧ (1 ≤ R ∨ R * W = 0) := by omega
              have B105148 : mb (N) (R) (W) (D) ((va_up t0.1 6 z4), t0.2.1, t0.2.2.1, t0.2.2.2) := ⟨p105144, p105145, p105146, p105147, i104988.2.2.2.2.1, i104988.2.2.2.2.2.1, i104988.2.2.2.2.2.2.1, i104988.2.2.2.2.2.2.2⟩
              have p105149 : 0 < D := by omega
              have p105150 : 0 ≤ (z4).toInt ∧ (z4).toInt ≤ N := by omega
              have p105151 : (t0.1 14).toInt = 1 := by omega
              refine wq_X7_goesAll_3 B105148 p105149 p105150 p105151 (fun r_68 u_69 q105152 q105153 q105154 q105155 q105156 => ?_)
              have := q105152.1
              have := q105152.2.1
              replace q105154 : (r_68).toInt = 0 ∨ (r_68).toInt = 1 := q105154
              replace q105155 : (z4).toInt ≤ (u_69.1 6).toInt ∧ (u_69.1 6).toInt ≤ N := q105155
              replace q105156 : (r_68).toInt = 0 ∨ (u_69.1 14).toInt = (t0.1 14).toInt := q105156
              refine ⟨fun c105157 => ?_, fun c105158 => ?_⟩
              · replace c105157 := q_neq c105157
                rw [li_0] at c105157
                have p105159 : ie [1, 2, 6, 7, 8, 9, 10, 11, 12, 13, 14] u_69.1 A := (ie_tr q105153 (by decide) (ie_up (ie_tr i104989 (by decide) (ie_refl _ _)) (by decide)))
                have p105160 : (u_69.1 14).toInt = 1 := by omega
                have p105161 : (z4).toInt = G := by omega
                have p105162 : 0 ≤ G ∧ G ≤ (u_69.1 6).toInt ∧ (u_69.1 6).toInt ≤ N := by omega
                have e105163 := tq_addr li_1 z5
                try rw [Int.emod_eq_of_lt (show 0 ≤ (z5).toInt + 1 + 2147483648 by omega) (show (z5).toInt + 1 + 2147483648 < 4294967296 by omega)] at e105163
                have p105164 : 0 ≤ (z5 + 1).toInt ∧ (z5 + 1).toInt ≤ 21 ∧ (z2).toInt ≤ 20 := by omega
                have p105165 : 21 - (z5 + 1).toInt < ((n : Nat) : Int) := by (omega)
                exact ih _ _ _ _ _ _ q105152 p105159 p105160 p105161 p105162 p105164 p105165
              · replace c105158 := q_eq c105158
                rw [li_0] at c105158
                have p105166 : ie [1, 2, 6, 7, 8, 9, 10, 11, 12, 13, 14] u_69.1 A := (ie_tr q105153 (by decide) (ie_up (ie_tr i104989 (by decide) (ie_refl _ _)) (by decide)))
                have p105167 : (0 : Int32).toInt = 0 := by (have := li_0; omega)
                have p105168 : G ≤ (u_69.1 6).toInt ∧ (u_69.1 6).toInt ≤ N := by omega
                exact k _ _ q105152 p105166 p105167 p105168
theorem wq_X7_goesTimes_4 {post : Int32 → Md → Prop} {s0 : Md} {x1 : Int32} {N R W D : Int} (h105169 : mb (N) (R) (W) (D) s0) (h105170 : 0 < D) (h105171 : 0 ≤ (s0.1 6).toInt ∧ (s0.1 6).toInt + 5 ≤ N) (h105172 : (s0.1 14).toInt = 0) (k : ∀ (r : Int32) (u : Md), mb (N) (R) (W) (D) u → ie [1, 2, 6, 7, 8, 9, 10, 11, 12, 13, 14] u.1 s0.1 → (r).toInt = 0 ∨ (r).toInt = 1 → (s0.1 6).toInt ≤ (u.1 6).toInt ∧ (u.1 6).toInt ≤ N → (r).toInt = 0 ∨ (u.1 14).toInt = (s0.1 14).toInt → post r u) : wp_X7_goesTimes_4 post s0 x1 := by
  unfold wp_X7_goesTimes_4
  have := h105169.1
  have := h105169.2.1
  have := h105169.2.2.1
  have := h105169.2.2.2.1
  have p105173 : (s0.1 5).toInt = N := by omega
  have p105174 : 0 ≤ (s0.1 0).toInt ∧ (s0.1 0).toInt ≤ 10 := by omega
  have p105175 : 0 ≤ N ∧ N ≤ 400 := by omega
  have p105176 : 0 ≤ R ∧ R ≤ 6 ∧ 0 ≤ W ∧ W ≤ 10 ∧ 0 ≤ R * W ∧ R * W ≤ 40 ∧ 0 ≤ D ∧ D ≤ 4 ∧ (D ≤ 0 ∨ 1 ≤ R) ∧ (1 ≤ R ∨ R * W = 0) := by omega
  have B105177 : mb (N) (R) (W) (D) ((va_up s0.1 6 ((s0.1 6) + 5)), s0.2.1, s0.2.2.1, s0.2.2.2) := ⟨p105173, p105174, p105175, p105176, h105169.2.2.2.2.1, h105169.2.2.2.2.2.1, h105169.2.2.2.2.2.2.1, h105169.2.2.2.2.2.2.2⟩
  have e105178 := tq_addr li_5 (s0.1 6)
  try rw [Int.emod_eq_of_lt (show 0 ≤ (s0.1 6).toInt + 5 + 2147483648 by omega) (show (s0.1 6).toInt + 5 + 2147483648 < 4294967296 by omega)] at e105178
  have p105179 : 0 ≤ ((s0.1 6) + 5).toInt ∧ ((s0.1 6) + 5).toInt ≤ N := by omega
  refine wq_X7_readsNumber B105177 p105179 (fun r_1 u_2 q105180 q105181 q105182 q105183 q105184 q105185 => ?_)
  have := q105180.1
  have := q105180.2.1
  replace q105182 : (r_1).toInt = 0 ∨ (r_1).toInt = 1 := q105182
  replace q105183 : ((s0.1 6) + 5).toInt ≤ (u_2.1 6).toInt ∧ (u_2.1 6).toInt ≤ N := q105183
  replace q105184 : (r_1).toInt = 0 ∨ (((0 : Int32)).toInt ≤ (u_2.1 8).toInt ∧ (u_2.1 8).toInt ≤ ((20 : Int32)).toInt) := q105184
  try simp only [li_0, li_20] at q105184
  refine ⟨fun c105186 => ?_, fun c105187 => ?_⟩
  · replace c105186 := q_neq c105186
    rw [li_0] at c105186
    have p105188 : 0 ≤ (u_2.1 6).toInt ∧ (u_2.1 6).toInt ≤ N := by omega
    refine wq_X7_nextByte q105180 p105188 (fun r_4 u_5 q105189 q105190 q105191 q105192 q105193 q105194 => ?_)
    have := q105189.1
    have := q105189.2.1
    refine ⟨fun c105195 => ?_, fun c105196 => ?_⟩
    · replace c105195 := q_neq c105195
      rw [li_40] at c105195
      have p105197 : 0 ≤ (u_5.1 6).toInt ∧ (u_5.1 6).toInt ≤ N := by omega
      have p105198 : ¬ ((40 : Int32)).toInt = -1 := by (have := li_40; omega)
      refine wq_X7_mustByte q105189 p105197 p105198 (fun r_7 u_8 q105199 q105200 q105201 q105202 q105203 q105204 => ?_)
      have := q105199.1
      have := q105199.2.1
      refine ⟨fun c105205 => ?_, fun c105206 => ?_⟩
      · replace c105205 := q_neq c105205
        rw [li_0] at c105205
        refine wq_X7_isDone q105199 (fun r_10 u_11 q105207 q105208 q105209 => ?_)
        have := q105207.1
        have := q105207.2.1
        have : (u_11.1 6).toInt = (u_8.1 6).toInt := ie_i q105208 6 (by decide)
        have p105210 : 0 < D := by omega
        have : (u_11.1 5).toInt = (u_8.1 5).toInt := ie_i q105208 5 (by decide)
        have : (u_8.1 5).toInt = (u_5.1 5).toInt := ie_i q105200 5 (by decide)
        have : (u_5.1 5).toInt = (u_2.1 5).toInt := ie_i q105190 5 (by decide)
        have : (u_2.1 5).toInt = (s0.1 5).toInt := ie_i q105181 5 (by decide)
        have p105211 : (u_11.1 5).toInt = N := by omega
        have : (u_11.1 0).toInt = (u_8.1 0).toInt := ie_i q105208 0 (by decide)
        have : (u_8.1 0).toInt = (u_5.1 0).toInt := ie_i q105200 0 (by decide)
        have : (u_5.1 0).toInt = (u_2.1 0).toInt := ie_i q105190 0 (by decide)
        have : (u_2.1 0).toInt = (s0.1 0).toInt := ie_i q105181 0 (by decide)
        have p105212 : 0 ≤ (u_11.1 0).toInt ∧ (u_11.1 0).toInt ≤ 10 := by omega
        have p105213 : 0 ≤ N ∧ N ≤ 400 := by omega
        have p105214 : 0 ≤ R ∧ R ≤ 6 ∧ 0 ≤ W ∧ W ≤ 10 ∧ 0 ≤ R * W ∧ R * W ≤ 40 ∧ 0 ≤ D ∧ D ≤ 4 ∧ (D ≤ 0 ∨ 1 ≤ R) ∧ (1 ≤ R ∨ R * W = 0) := by omega
        have B105215 : mb (N) (R) (W) (D) ((va_up u_11.1 14 ((u_11.1 14) + 1)), u_11.2.1, u_11.2.2.1, u_11.2.2.2) := ⟨p105211, p105212, p105213, p105214, q105207.2.2.2.2.1, q105207.2.2.2.2.2.1, q105207.2.2.2.2.2.2.1, q105207.2.2.2.2.2.2.2⟩
        have p105216 : ie [1, 2, 6, 7, 8, 9, 10, 11, 12, 13, 14] (va_up u_11.1 14 ((u_11.1 14) + 1)) (va_up u_11.1 14 ((u_11.1 14) + 1)) := (ie_refl _ _)
        have : (u_11.1 14).toInt = (u_8.1 14).toInt := ie_i q105208 14 (by decide)
        have : (u_8.1 14).toInt = (u_5.1 14).toInt := ie_i q105200 14 (by decide)
        have : (u_5.1 14).toInt = (u_2.1 14).toInt := ie_i q105190 14 (by decide)
        have : (u_2.1 14).toInt = (s0.1 14).toInt := ie_i q105181 14 (by decide)
        have e105217 := tq_addr li_1 (u_11.1 14)
        try rw [Int.emod_eq_of_lt (show 0 ≤ (u_11.1 14).toInt + 1 + 2147483648 by omega) (show (u_11.1 14).toInt + 1 + 2147483648 < 4294967296 by omega)] at e105217
        have p105218 : ((u_11.1 14) + 1).toInt = 1 := by omega
        have p105219 : (u_11.1 6).toInt = ((u_11.1 6).toInt) := by omega
        have p105220 : 0 ≤ ((u_11.1 6).toInt) ∧ ((u_11.1 6).toInt) ≤ (u_11.1 6).toInt ∧ (u_11.1 6).toInt ≤ N := by omega
        have p105221 : 0 ≤ (0 : Int32).toInt ∧ (0 : Int32).toInt ≤ 21 ∧ (u_2.1 8).toInt ≤ 20 := by (have := li_0; omega)
        obtain ⟨f105222, g105223⟩ := fu_e 50
        have p105224 : 21 - (0 : Int32).toInt < (f105222 : Int) := by (have := li_0; omega)
        refine ⟨f105222, wq_X7_goesTimes_4_L90 p105210 (fun t0 z1 z2 z3 z4 z5 q105225 q105226 q105227 q105228 q105229 q105230 => ?_) (fun r105231 u105232 q105233 q105234 q105235 q105236 => ?_) f105222 _ _ _ _ _ _ B105215 p105216 p105218 p105219 p105220 p105221 p105224⟩
        · have := q105225.1
          have := q105225.2.1
          have p105237 : 0 ≤ (t0.1 6).toInt ∧ (t0.1 6).toInt ≤ N := by omega
          have p105238 : ¬ ((41 : Int32)).toInt = -1 := by (have := li_41; omega)
          refine wq_X7_mustByte q105225 p105237 p105238 (fun r_37 u_38 q105239 q105240 q105241 q105242 q105243 q105244 => ?_)
          have := q105239.1
          have := q105239.2.1
          refine ⟨fun c105245 => ?_, fun c105246 => ?_⟩
          · replace c105245 := q_neq c105245
            rw [li_0] at c105245
            have : (u_38.1 5).toInt = (t0.1 5).toInt := ie_i q105240 5 (by decide)
            have : (t0.1 5).toInt = (u_11.1 5).toInt := ie_i q105226 5 (by decide)
            have p105247 : (u_38.1 5).toInt = N := by omega
            have : (u_38.1 0).toInt = (t0.1 0).toInt := ie_i q105240 0 (by decide)
            have : (t0.1 0).toInt = (u_11.1 0).toInt := ie_i q105226 0 (by decide)
            have p105248 : 0 ≤ (u_38.1 0).toInt ∧ (u_38.1 0).toInt ≤ 10 := by omega
            have p105249 : 0 ≤ N ∧ N ≤ 400 := by omega
            have p105250 : 0 ≤ R ∧ R ≤ 6 ∧ 0 ≤ W ∧ W ≤ 10 ∧ 0 ≤ R * W ∧ R * W ≤ 40 ∧ 0 ≤ D ∧ D ≤ 4 ∧ (D ≤ 0 ∨ 1 ≤ R) ∧ (1 ≤ R ∨ R * W = 0) := by omega
            have B105251 : mb (N) (R) (W) (D) ((va_up u_38.1 14 ((u_38.1 14) - 1)), u_38.2.1, u_38.2.2.1, u_38.2.2.2) := ⟨p105247, p105248, p105249, p105250, q105239.2.2.2.2.1, q105239.2.2.2.2.2.1, q105239.2.2.2.2.2.2.1, q105239.2.2.2.2.2.2.2⟩
            have p105252 : ie [1, 2, 6, 7, 8, 9, 10, 11, 12, 13, 14] (va_up u_38.1 14 ((u_38.1 14) - 1)) s0.1 := (ie_up (ie_tr q105240 (by decide) (ie_tr q105226 (by decide) (ie_up (ie_tr q105208 (by decide) (ie_tr q105200 (by decide) (ie_tr q105190 (by decide) (ie_tr q105181 (by decide) (ie_up (ie_refl _ _) (by decide)))))) (by decide)))) (by decide))
            have p105253 : (1 : Int32).toInt = 0 ∨ (1 : Int32).toInt = 1 := by (have := li_1; omega)
            have p105254 : (s0.1 6).toInt ≤ (u_38.1 6).toInt ∧ (u_38.1 6).toInt ≤ N := by omega
            have : (u_38.1 14).toInt = (t0.1 14).toInt := ie_i q105240 14 (by decide)
            have e105255 := tq_subr li_1 (u_38.1 14)
            try rw [Int.emod_eq_of_lt (show 0 ≤ (u_38.1 14).toInt - 1 + 2147483648 by omega) (show (u_38.1 14).toInt - 1 + 2147483648 < 4294967296 by omega)] at e105255
            have p105256 : (1 : Int32).toInt = 0 ∨ ((u_38.1 14) - 1).toInt = (s0.1 14).toInt := by (have := li_1; omega)
            exact k _ _ B105251 p105252 p105253 p105254 p105256
          · replace c105246 := q_eq c105246
            rw [li_0] at c105246
            have p105257 : ie [1, 2, 6, 7, 8, 9, 10, 11, 12, 13, 14] u_38.1 s0.1 := (ie_tr q105240 (by decide) (ie_tr q105226 (by decide) (ie_up (ie_tr q105208 (by decide) (ie_tr q105200 (by decide) (ie_tr q105190 (by decide) (ie_tr q105181 (by decide) (ie_up (ie_refl _ _) (by decide)))))) (by decide))))
            have p105258 : (0 : Int32).toInt = 0 ∨ (0 : Int32).toInt = 1 := by (have := li_0; omega)
            have p105259 : (s0.1 6).toInt ≤ (u_38.1 6).toInt ∧ (u_38.1 6).toInt ≤ N := by omega
            have : (u_38.1 14).toInt = (t0.1 14).toInt := ie_i q105240 14 (by decide)
            have p105260 : (0 : Int32).toInt = 0 ∨ (u_38.1 14).toInt = (s0.1 14).toInt := by (have := li_0; omega)
            exact k _ _ q105239 p105257 p105258 p105259 p105260
        · have := q105233.1
          have := q105233.2.1
          have p105261 : ie [1, 2, 6, 7, 8, 9, 10, 11, 12, 13, 14] u105232.1 s0.1 := (ie_tr q105234 (by decide) (ie_up (ie_tr q105208 (by decide) (ie_tr q105200 (by decide) (ie_tr q105190 (by decide) (ie_tr q105181 (by decide) (ie_up (ie_refl _ _) (by decide)))))) (by decide)))
          have p105262 : (r105231).toInt = 0 ∨ (r105231).toInt = 1 := by omega
          have p105263 : (s0.1 6).toInt ≤ (u105232.1 6).toInt ∧ (u105232.1 6).toInt ≤ N := by omega
          have p105264 : (r105231).toInt = 0 ∨ (u105232.1 14).toInt = (s0.1 14).toInt := by omega
          exact k _ _ q105233 p105261 p105262 p105263 p105264
      · replace c105206 := q_eq c105206
        rw [li_0] at c105206
        have p105265 : ie [1, 2, 6, 7, 8, 9, 10, 11, 12, 13, 14] u_8.1 s0.1 := (ie_tr q105200 (by decide) (ie_tr q105190 (by decide) (ie_tr q105181 (by decide) (ie_up (ie_refl _ _) (by decide)))))
        have p105266 : (0 : Int32).toInt = 0 ∨ (0 : Int32).toInt = 1 := by (have := li_0; omega)
        have p105267 : (s0.1 6).toInt ≤ (u_8.1 6).toInt ∧ (u_8.1 6).toInt ≤ N := by omega
        have : (u_8.1 14).toInt = (u_5.1 14).toInt := ie_i q105200 14 (by decide)
        have : (u_5.1 14).toInt = (u_2.1 14).toInt := ie_i q105190 14 (by decide)
        have : (u_2.1 14).toInt = (s0.1 14).toInt := ie_i q105181 14 (by decide)
        have p105268 : (0 : Int32).toInt = 0 ∨ (u_8.1 14).toInt = (s0.1 14).toInt := by (have := li_0; omega)
        exact k _ _ q105199 p105265 p105266 p105267 p105268
    · replace c105196 := q_eq c105196
      rw [li_40] at c105196
      refine ⟨fun c105269 => ?_, fun c105270 => ?_⟩
      · replace c105269 := q_neq c105269
        rw [li_3] at c105269
        have : (u_5.1 14).toInt = (u_2.1 14).toInt := ie_i q105190 14 (by decide)
        have : (u_2.1 14).toInt = (s0.1 14).toInt := ie_i q105181 14 (by decide)
        have p105271 : 0 ≤ (u_5.1 6).toInt ∧ (u_5.1 6).toInt ≤ N := by omega
        have p105272 : ¬ ((40 : Int32)).toInt = -1 := by (have := li_40; omega)
        refine wq_X7_mustByte q105189 p105271 p105272 (fun r_41 u_42 q105273 q105274 q105275 q105276 q105277 q105278 => ?_)
        have := q105273.1
        have := q105273.2.1
        refine ⟨fun c105279 => ?_, fun c105280 => ?_⟩
        · replace c105279 := q_neq c105279
          rw [li_0] at c105279
          refine wq_X7_isDone q105273 (fun r_44 u_45 q105281 q105282 q105283 => ?_)
          have := q105281.1
          have := q105281.2.1
          have : (u_45.1 6).toInt = (u_42.1 6).toInt := ie_i q105282 6 (by decide)
          have p105284 : 0 < D := by omega
          have : (u_45.1 5).toInt = (u_42.1 5).toInt := ie_i q105282 5 (by decide)
          have : (u_42.1 5).toInt = (u_5.1 5).toInt := ie_i q105274 5 (by decide)
          have : (u_5.1 5).toInt = (u_2.1 5).toInt := ie_i q105190 5 (by decide)
          have : (u_2.1 5).toInt = (s0.1 5).toInt := ie_i q105181 5 (by decide)
          have p105285 : (u_45.1 5).toInt = N := by omega
          have : (u_45.1 0).toInt = (u_42.1 0).toInt := ie_i q105282 0 (by decide)
          have : (u_42.1 0).toInt = (u_5.1 0).toInt := ie_i q105274 0 (by decide)
          have : (u_5.1 0).toInt = (u_2.1 0).toInt := ie_i q105190 0 (by decide)
          have : (u_2.1 0).toInt = (s0.1 0).toInt := ie_i q105181 0 (by decide)
          have p105286 : 0 ≤ (u_45.1 0).toInt ∧ (u_45.1 0).toInt ≤ 10 := by omega
          have p105287 : 0 ≤ N ∧ N ≤ 400 := by omega
          have p105288 : 0 ≤ R ∧ R ≤ 6 ∧ 0 ≤ W ∧ W ≤ 10 ∧ 0 ≤ R * W ∧ R * W ≤ 40 ∧ 0 ≤ D ∧ D ≤ 4 ∧ (D ≤ 0 ∨ 1 ≤ R) ∧ (1 ≤ R ∨ R * W = 0) := by omega
          have B105289 : mb (N) (R) (W) (D) ((va_up u_45.1 14 ((u_45.1 14) + 1)), u_45.2.1, u_45.2.2.1, u_45.2.2.2) := ⟨p105285, p105286, p105287, p105288, q105281.2.2.2.2.1, q105281.2.2.2.2.2.1, q105281.2.2.2.2.2.2.1, q105281.2.2.2.2.2.2.2⟩
          have p105290 : ie [1, 2, 6, 7, 8, 9, 10, 11, 12, 13, 14] (va_up u_45.1 14 ((u_45.1 14) + 1)) (va_up u_45.1 14 ((u_45.1 14) + 1)) := (ie_refl _ _)
          have : (u_45.1 14).toInt = (u_42.1 14).toInt := ie_i q105282 14 (by decide)
          have : (u_42.1 14).toInt = (u_5.1 14).toInt := ie_i q105274 14 (by decide)
          have e105291 := tq_addr li_1 (u_45.1 14)
          try rw [Int.emod_eq_of_lt (show 0 ≤ (u_45.1 14).toInt + 1 + 2147483648 by omega) (show (u_45.1 14).toInt + 1 + 2147483648 < 4294967296 by omega)] at e105291
          have p105292 : ((u_45.1 14) + 1).toInt = 1 := by omega
          have p105293 : (u_45.1 6).toInt = ((u_45.1 6).toInt) := by omega
          have p105294 : 0 ≤ ((u_45.1 6).toInt) ∧ ((u_45.1 6).toInt) ≤ (u_45.1 6).toInt ∧ (u_45.1 6).toInt ≤ N := by omega
          have p105295 : 0 ≤ (0 : Int32).toInt ∧ (0 : Int32).toInt ≤ 21 ∧ (u_2.1 8).toInt ≤ 20 := by (have := li_0; omega)
          obtain ⟨f105296, g105297⟩ := fu_e 50
          have p105298 : 21 - (0 : Int32).toInt < (f105296 : Int) := by (have := li_0; omega)
          refine ⟨f105296, wq_X7_goesTimes_4_L90b p105284 (fun t0 z1 z2 z3 z4 z5 q105299 q105300 q105301 q105302 q105303 q105304 => ?_) (fun r105305 u105306 q105307 q105308 q105309 q105310 => ?_) f105296 _ _ _ _ _ _ B105289 p105290 p105292 p105293 p105294 p105295 p105298⟩
          · have := q105299.1
            have := q105299.2.1
            have p105311 : 0 ≤ (t0.1 6).toInt ∧ (t0.1 6).toInt ≤ N := by omega
            have p105312 : ¬ ((41 : Int32)).toInt = -1 := by (have := li_41; omega)
            refine wq_X7_mustByte q105299 p105311 p105312 (fun r_71 u_72 q105313 q105314 q105315 q105316 q105317 q105318 => ?_)
            have := q105313.1
            have := q105313.2.1
            refine ⟨fun c105319 => ?_, fun c105320 => ?_⟩
            · replace c105319 := q_neq c105319
              rw [li_0] at c105319
              have : (u_72.1 5).toInt = (t0.1 5).toInt := ie_i q105314 5 (by decide)
              have : (t0.1 5).toInt = (u_45.1 5).toInt := ie_i q105300 5 (by decide)
              have p105321 : (u_72.1 5).toInt = N := by omega
              have : (u_72.1 0).toInt = (t0.1 0).toInt := ie_i q105314 0 (by decide)
              have : (t0.1 0).toInt = (u_45.1 0).toInt := ie_i q105300 0 (by decide)
              have p105322 : 0 ≤ (u_72.1 0).toInt ∧ (u_72.1 0).toInt ≤ 10 := by omega
              have p105323 : 0 ≤ N ∧ N ≤ 400 := by omega
              have p105324 : 0 ≤ R ∧ R ≤ 6 ∧ 0 ≤ W ∧ W ≤ 10 ∧ 0 ≤ R * W ∧ R * W ≤ 40 ∧ 0 ≤ D ∧ D ≤ 4 ∧ (D ≤ 0 ∨ 1 ≤ R) ∧ (1 ≤ R ∨ R * W = 0) := by omega
              have B105325 : mb (N) (R) (W) (D) ((va_up u_72.1 14 ((u_72.1 14) - 1)), u_72.2.1, u_72.2.2.1, u_72.2.2.2) := ⟨p105321, p105322, p105323, p105324, q105313.2.2.2.2.1, q105313.2.2.2.2.2.1, q105313.2.2.2.2.2.2.1, q105313.2.2.2.2.2.2.2⟩
              have p105326 : ie [1, 2, 6, 7, 8, 9, 10, 11, 12, 13, 14] (va_up u_72.1 14 ((u_72.1 14) - 1)) s0.1 := (ie_up (ie_tr q105314 (by decide) (ie_tr q105300 (by decide) (ie_up (ie_tr q105282 (by decide) (ie_tr q105274 (by decide) (ie_tr q105190 (by decide) (ie_tr q105181 (by decide) (ie_up (ie_refl _ _) (by decide)))))) (by decide)))) (by decide))
              have p105327 : (1 : Int32).toInt = 0 ∨ (1 : Int32).toInt = 1 := by (have := li_1; omega)
              have p105328 : (s0.1 6).toInt ≤ (u_72.1 6).toInt ∧ (u_72.1 6).toInt ≤ N := by omega
              have : (u_72.1 14).toInt = (t0.1 14).toInt := ie_i q105314 14 (by decide)
              have e105329 := tq_subr li_1 (u_72.1 14)
              try rw [Int.emod_eq_of_lt (show 0 ≤ (u_72.1 14).toInt - 1 + 2147483648 by omega) (show (u_72.1 14).toInt - 1 + 2147483648 < 4294967296 by omega)] at e105329
              have p105330 : (1 : Int32).toInt = 0 ∨ ((u_72.1 14) - 1).toInt = (s0.1 14).toInt := by (have := li_1; omega)
              exact k _ _ B105325 p105326 p105327 p105328 p105330
            · replace c105320 := q_eq c105320
              rw [li_0] at c105320
              have p105331 : ie [1, 2, 6, 7, 8, 9, 10, 11, 12, 13, 14] u_72.1 s0.1 := (ie_tr q105314 (by decide) (ie_tr q105300 (by decide) (ie_up (ie_tr q105282 (by decide) (ie_tr q105274 (by decide) (ie_tr q105190 (by decide) (ie_tr q105181 (by decide) (ie_up (ie_refl _ _) (by decide)))))) (by decide))))
              have p105332 : (0 : Int32).toInt = 0 ∨ (0 : Int32).toInt = 1 := by (have := li_0; omega)
              have p105333 : (s0.1 6).toInt ≤ (u_72.1 6).toInt ∧ (u_72.1 6).toInt ≤ N := by omega
              have : (u_72.1 14).toInt = (t0.1 14).toInt := ie_i q105314 14 (by decide)
              have p105334 : (0 : Int32).toInt = 0 ∨ (u_72.1 14).toInt = (s0.1 14).toInt := by (have := li_0; omega)
              exact k _ _ q105313 p105331 p105332 p105333 p105334
          · have := q105307.1
            have := q105307.2.1
            have p105335 : ie [1, 2, 6, 7, 8, 9, 10, 11, 12, 13, 14] u105306.1 s0.1 := (ie_tr q105308 (by decide) (ie_up (ie_tr q105282 (by decide) (ie_tr q105274 (by decide) (ie_tr q105190 (by decide) (ie_tr q105181 (by decide) (ie_up (ie_refl _ _) (by decide)))))) (by decide)))
            have p105336 : (r105305).toInt = 0 ∨ (r105305).toInt = 1 := by omega
            have p105337 : (s0.1 6).toInt ≤ (u105306.1 6).toInt ∧ (u105306.1 6).toInt ≤ N := by omega
            have p105338 : (r105305).toInt = 0 ∨ (u105306.1 14).toInt = (s0.1 14).toInt := by omega
            exact k _ _ q105307 p105335 p105336 p105337 p105338
        · replace c105280 := q_eq c105280
          rw [li_0] at c105280
          have p105339 : ie [1, 2, 6, 7, 8, 9, 10, 11, 12, 13, 14] u_42.1 s0.1 := (ie_tr q105274 (by decide) (ie_tr q105190 (by decide) (ie_tr q105181 (by decide) (ie_up (ie_refl _ _) (by decide)))))
          have p105340 : (0 : Int32).toInt = 0 ∨ (0 : Int32).toInt = 1 := by (have := li_0; omega)
          have p105341 : (s0.1 6).toInt ≤ (u_42.1 6).toInt ∧ (u_42.1 6).toInt ≤ N := by omega
          have : (u_42.1 14).toInt = (u_5.1 14).toInt := ie_i q105274 14 (by decide)
          have p105342 : (0 : Int32).toInt = 0 ∨ (u_42.1 14).toInt = (s0.1 14).toInt := by (have := li_0; omega)
          exact k _ _ q105273 p105339 p105340 p105341 p105342
      · replace c105270 := q_eq c105270
        rw [li_3] at c105270
        have : (u_5.1 14).toInt = (u_2.1 14).toInt := ie_i q105190 14 (by decide)
        have : (u_2.1 14).toInt = (s0.1 14).toInt := ie_i q105181 14 (by decide)
        refine wq_X7_fails q105189 (fun r_74 u_75 q105343 q105344 q105345 q105346 => ?_)
        have := q105343.1
        have := q105343.2.1
        refine ⟨(nb_b (by omega)), ?_⟩
        have p105347 : ie [1, 2, 6, 7, 8, 9, 10, 11, 12, 13, 14] u_75.1 s0.1 := (ie_tr q105344 (by decide) (ie_tr q105190 (by decide) (ie_tr q105181 (by decide) (ie_up (ie_refl _ _) (by decide)))))
        have p105348 : (r_74).toInt = 0 ∨ (r_74).toInt = 1 := by omega
        have : (u_75.1 6).toInt = (u_5.1 6).toInt := ie_i q105344 6 (by decide)
        have p105349 : (s0.1 6).toInt ≤ (u_75.1 6).toInt ∧ (u_75.1 6).toInt ≤ N := by omega
        have : (u_75.1 14).toInt = (u_5.1 14).toInt := ie_i q105344 14 (by decide)
        have p105350 : (r_74).toInt = 0 ∨ (u_75.1 14).toInt = (s0.1 14).toInt := by omega
        exact k _ _ q105343 p105347 p105348 p105349 p105350
  · replace c105187 := q_eq c105187
    rw [li_0] at c105187
    have p105351 : ie [1, 2, 6, 7, 8, 9, 10, 11, 12, 13, 14] u_2.1 s0.1 := (ie_tr q105181 (by decide) (ie_up (ie_refl _ _) (by decide)))
    have p105352 : (0 : Int32).toInt = 0 ∨ (0 : Int32).toInt = 1 := by (have := li_0; omega)
    have p105353 : (s0.1 6).toInt ≤ (u_2.1 6).toInt ∧ (u_2.1 6).toInt ≤ N := by omega
    have : (u_2.1 14).toInt = (s0.1 14).toInt := ie_i q105181 14 (by decide)
    have p105354 : (0 : Int32).toInt = 0 ∨ (u_2.1 14).toInt = (s0.1 14).toInt := by (have := li_0; omega)
    exact k _ _ q105180 p105351 p105352 p105353 p105354
theorem wq_X7_goesOne_4 {post : Int32 → Md → Prop} {s0 : Md} {x1 : Int32} {N R W D : Int} (h105355 : mb (N) (R) (W) (D) s0) (h105356 : 0 < D) (h105357 : 0 ≤ (s0.1 6).toInt ∧ (s0.1 6).toInt ≤ N) (h105358 : (s0.1 14).toInt = 0) (k : ∀ (r : Int32) (u : Md), mb (N) (R) (W) (D) u → ie [1, 2, 6, 7, 8, 9, 10, 11, 12, 13, 14] u.1 s0.1 → (r).toInt = 0 ∨ (r).toInt = 1 → (s0.1 6).toInt ≤ (u.1 6).toInt ∧ (u.1 6).toInt ≤ N → (r).toInt = 0 ∨ (u.1 14).toInt = (s0.1 14).toInt → post r u) : wp_X7_goesOne_4 post s0 x1 := by
  unfold wp_X7_goesOne_4
  have := h105355.1
  have := h105355.2.1
  have := h105355.2.2.1
  have := h105355.2.2.2.1
  have p105359 : 0 ≤ (s0.1 6).toInt ∧ (s0.1 6).toInt ≤ N := by omega
  have p105360 : 1 ≤ ln 5 ∧ ln 5 ≤ 9 := by first | assumption | decide
  refine wq_X7_isWord h105355 p105359 p105360 (fun r_1 u_2 q105361 q105362 q105363 q105364 q105365 q105366 q105367 => ?_)
  have := q105361.1
  have := q105361.2.1
  have := ln_5
  refine ⟨fun c105368 => ?_, fun c105369 => ?_⟩
  · replace c105368 := q_eq c105368
    rw [li_0] at c105368
    have p105370 : 0 ≤ (u_2.1 6).toInt ∧ (u_2.1 6).toInt ≤ N := by omega
    have p105371 : 1 ≤ ln 7 ∧ ln 7 ≤ 9 := by first | assumption | decide
    refine wq_X7_isWord q105361 p105370 p105371 (fun r_4 u_5 q105372 q105373 q105374 q105375 q105376 q105377 q105378 => ?_)
    have := q105372.1
    have := q105372.2.1
    have := ln_7
    refine ⟨fun c105379 => ?_, fun c105380 => ?_⟩
    · replace c105379 := q_eq c105379
      rw [li_0] at c105379
      have p105381 : 0 ≤ (u_5.1 6).toInt ∧ (u_5.1 6).toInt ≤ N := by omega
      have p105382 : 1 ≤ ln 8 ∧ ln 8 ≤ 9 := by first | assumption | decide
      refine wq_X7_isWord q105372 p105381 p105382 (fun r_7 u_8 q105383 q105384 q105385 q105386 q105387 q105388 q105389 => ?_)
      have := q105383.1
      have := q105383.2.1
      have := ln_8
      refine ⟨fun c105390 => ?_, fun c105391 => ?_⟩
      · replace c105390 := q_eq c105390
        rw [li_0] at c105390
        have p105392 : 0 ≤ (u_8.1 6).toInt ∧ (u_8.1 6).toInt ≤ N := by omega
        have p105393 : 1 ≤ ln 9 ∧ ln 9 ≤ 9 := by first | assumption | decide
        refine wq_X7_isWord q105383 p105392 p105393 (fun r_10 u_11 q105394 q105395 q105396 q105397 q105398 q105399 q105400 => ?_)
        have := q105394.1
        have := q105394.2.1
        have := ln_9
        refine ⟨fun c105401 => ?_, fun c105402 => ?_⟩
        · replace c105401 := q_eq c105401
          rw [li_0] at c105401
          have p105403 : 0 ≤ (u_11.1 6).toInt ∧ (u_11.1 6).toInt ≤ N := by omega
          have p105404 : 1 ≤ ln 10 ∧ ln 10 ≤ 9 := by first | assumption | decide
          refine wq_X7_isWord q105394 p105403 p105404 (fun r_13 u_14 q105405 q105406 q105407 q105408 q105409 q105410 q105411 => ?_)
          have := q105405.1
          have := q105405.2.1
          have := ln_10
          refine ⟨fun c105412 => ?_, fun c105413 => ?_⟩
          · replace c105412 := q_eq c105412
            rw [li_0] at c105412
            have p105414 : 0 ≤ (u_14.1 6).toInt ∧ (u_14.1 6).toInt ≤ N := by omega
            have p105415 : 1 ≤ ln 6 ∧ ln 6 ≤ 9 := by first | assumption | decide
            refine wq_X7_isWord q105405 p105414 p105415 (fun r_16 u_17 q105416 q105417 q105418 q105419 q105420 q105421 q105422 => ?_)
            have := q105416.1
            have := q105416.2.1
            have := ln_6
            refine ⟨fun c105423 => ?_, fun c105424 => ?_⟩
            · replace c105423 := q_eq c105423
              rw [li_0] at c105423
              have p105425 : 0 ≤ (u_17.1 6).toInt ∧ (u_17.1 6).toInt ≤ N := by omega
              have p105426 : 1 ≤ ln 11 ∧ ln 11 ≤ 9 := by first | assumption | decide
              refine wq_X7_isWord q105416 p105425 p105426 (fun r_19 u_20 q105427 q105428 q105429 q105430 q105431 q105432 q105433 => ?_)
              have := q105427.1
              have := q105427.2.1
              have := ln_11
              refine ⟨fun c105434 => ?_, fun c105435 => ?_⟩
              · replace c105434 := q_eq c105434
                rw [li_0] at c105434
                refine wq_X7_fails q105427 (fun r_22 u_23 q105436 q105437 q105438 q105439 => ?_)
                have := q105436.1
                have := q105436.2.1
                refine ⟨(nb_b (by omega)), ?_⟩
                have p105440 : ie [1, 2, 6, 7, 8, 9, 10, 11, 12, 13, 14] u_23.1 s0.1 := (ie_tr q105437 (by decide) (ie_tr q105428 (by decide) (ie_tr q105417 (by decide) (ie_tr q105406 (by decide) (ie_tr q105395 (by decide) (ie_tr q105384 (by decide) (ie_tr q105373 (by decide) (ie_tr q105362 (by decide) (ie_refl _ _)))))))))
                have p105441 : (r_22).toInt = 0 ∨ (r_22).toInt = 1 := by omega
                have : (u_23.1 6).toInt = (u_20.1 6).toInt := ie_i q105437 6 (by decide)
                have p105442 : (s0.1 6).toInt ≤ (u_23.1 6).toInt ∧ (u_23.1 6).toInt ≤ N := by omega
                have : (u_23.1 14).toInt = (u_20.1 14).toInt := ie_i q105437 14 (by decide)
                have : (u_20.1 14).toInt = (u_17.1 14).toInt := ie_i q105428 14 (by decide)
                have : (u_17.1 14).toInt = (u_14.1 14).toInt := ie_i q105417 14 (by decide)
                have : (u_14.1 14).toInt = (u_11.1 14).toInt := ie_i q105406 14 (by decide)
                have : (u_11.1 14).toInt = (u_8.1 14).toInt := ie_i q105395 14 (by decide)
                have : (u_8.1 14).toInt = (u_5.1 14).toInt := ie_i q105384 14 (by decide)
                have : (u_5.1 14).toInt = (u_2.1 14).toInt := ie_i q105373 14 (by decide)
                have : (u_2.1 14).toInt = (s0.1 14).toInt := ie_i q105362 14 (by decide)
                have p105443 : (r_22).toInt = 0 ∨ (u_23.1 14).toInt = (s0.1 14).toInt := by omega
                exact k _ _ q105436 p105440 p105441 p105442 p105443
              · replace c105435 := q_neq c105435
                rw [li_0] at c105435
                have p105444 : 0 < D := by omega
                have p105445 : 0 ≤ (u_20.1 6).toInt ∧ (u_20.1 6).toInt + 5 ≤ N := by omega
                have : (u_20.1 14).toInt = (u_17.1 14).toInt := ie_i q105428 14 (by decide)
                have : (u_17.1 14).toInt = (u_14.1 14).toInt := ie_i q105417 14 (by decide)
                have : (u_14.1 14).toInt = (u_11.1 14).toInt := ie_i q105406 14 (by decide)
                have : (u_11.1 14).toInt = (u_8.1 14).toInt := ie_i q105395 14 (by decide)
                have : (u_8.1 14).toInt = (u_5.1 14).toInt := ie_i q105384 14 (by decide)
                have : (u_5.1 14).toInt = (u_2.1 14).toInt := ie_i q105373 14 (by decide)
                have : (u_2.1 14).toInt = (s0.1 14).toInt := ie_i q105362 14 (by decide)
                have p105446 : (u_20.1 14).toInt = 0 := by omega
                refine wq_X7_goesTimes_4 q105427 p105444 p105445 p105446 (fun r_25 u_26 q105447 q105448 q105449 q105450 q105451 => ?_)
                have := q105447.1
                have := q105447.2.1
                refine ⟨(nb_b (by omega)), ?_⟩
                have p105452 : ie [1, 2, 6, 7, 8, 9, 10, 11, 12, 13, 14] u_26.1 s0.1 := (ie_tr q105448 (by decide) (ie_tr q105428 (by decide) (ie_tr q105417 (by decide) (ie_tr q105406 (by decide) (ie_tr q105395 (by decide) (ie_tr q105384 (by decide) (ie_tr q105373 (by decide) (ie_tr q105362 (by decide) (ie_refl _ _)))))))))
                have p105453 : (r_25).toInt = 0 ∨ (r_25).toInt = 1 := by omega
                have p105454 : (s0.1 6).toInt ≤ (u_26.1 6).toInt ∧ (u_26.1 6).toInt ≤ N := by omega
                have p105455 : (r_25).toInt = 0 ∨ (u_26.1 14).toInt = (s0.1 14).toInt := by omega
                exact k _ _ q105447 p105452 p105453 p105454 p105455
            · replace c105424 := q_neq c105424
              rw [li_0] at c105424
              have p105456 : 0 < D := by omega
              have p105457 : 0 ≤ (u_17.1 6).toInt ∧ (u_17.1 6).toInt + 4 ≤ N := by omega
              refine wq_X7_goesLose q105416 p105456 p105457 (fun r_28 u_29 q105458 q105459 q105460 q105461 => ?_)
              have := q105458.1
              have := q105458.2.1
              refine ⟨(nb_b (by omega)), ?_⟩
              have p105462 : ie [1, 2, 6, 7, 8, 9, 10, 11, 12, 13, 14] u_29.1 s0.1 := (ie_tr q105459 (by decide) (ie_tr q105417 (by decide) (ie_tr q105406 (by decide) (ie_tr q105395 (by decide) (ie_tr q105384 (by decide) (ie_tr q105373 (by decide) (ie_tr q105362 (by decide) (ie_refl _ _))))))))
              have p105463 : (r_28).toInt = 0 ∨ (r_28).toInt = 1 := by omega
              have p105464 : (s0.1 6).toInt ≤ (u_29.1 6).toInt ∧ (u_29.1 6).toInt ≤ N := by omega
              have : (u_29.1 14).toInt = (u_17.1 14).toInt := ie_i q105459 14 (by decide)
              have : (u_17.1 14).toInt = (u_14.1 14).toInt := ie_i q105417 14 (by decide)
              have : (u_14.1 14).toInt = (u_11.1 14).toInt := ie_i q105406 14 (by decide)
              have : (u_11.1 14).toInt = (u_8.1 14).toInt := ie_i q105395 14 (by decide)
              have : (u_8.1 14).toInt = (u_5.1 14).toInt := ie_i q105384 14 (by decide)
              have : (u_5.1 14).toInt = (u_2.1 14).toInt := ie_i q105373 14 (by decide)
              have : (u_2.1 14).toInt = (s0.1 14).toInt := ie_i q105362 14 (by decide)
              have p105465 : (r_28).toInt = 0 ∨ (u_29.1 14).toInt = (s0.1 14).toInt := by omega
              exact k _ _ q105458 p105462 p105463 p105464 p105465
          · replace c105413 := q_neq c105413
            rw [li_0] at c105413
            have p105466 : 0 < D := by omega
            have p105467 : 0 ≤ (u_14.1 6).toInt ∧ (u_14.1 6).toInt + 6 ≤ N := by omega
            refine wq_X7_goesSettle q105405 p105466 p105467 (fun r_31 u_32 q105468 q105469 q105470 q105471 => ?_)
            have := q105468.1
            have := q105468.2.1
            refine ⟨(nb_b (by omega)), ?_⟩
            have p105472 : ie [1, 2, 6, 7, 8, 9, 10, 11, 12, 13, 14] u_32.1 s0.1 := (ie_tr q105469 (by decide) (ie_tr q105406 (by decide) (ie_tr q105395 (by decide) (ie_tr q105384 (by decide) (ie_tr q105373 (by decide) (ie_tr q105362 (by decide) (ie_refl _ _)))))))
            have p105473 : (r_31).toInt = 0 ∨ (r_31).toInt = 1 := by omega
            have p105474 : (s0.1 6).toInt ≤ (u_32.1 6).toInt ∧ (u_32.1 6).toInt ≤ N := by omega
            have : (u_32.1 14).toInt = (u_14.1 14).toInt := ie_i q105469 14 (by decide)
            have : (u_14.1 14).toInt = (u_11.1 14).toInt := ie_i q105406 14 (by decide)
            have : (u_11.1 14).toInt = (u_8.1 14).toInt := ie_i q105395 14 (by decide)
            have : (u_8.1 14).toInt = (u_5.1 14).toInt := ie_i q105384 14 (by decide)
            have : (u_5.1 14).toInt = (u_2.1 14).toInt := ie_i q105373 14 (by decide)
            have : (u_2.1 14).toInt = (s0.1 14).toInt := ie_i q105362 14 (by decide)
            have p105475 : (r_31).toInt = 0 ∨ (u_32.1 14).toInt = (s0.1 14).toInt := by omega
            exact k _ _ q105468 p105472 p105473 p105474 p105475
        · replace c105402 := q_neq c105402
          rw [li_0] at c105402
          have p105476 : 0 < D := by omega
          have p105477 : 0 ≤ (u_11.1 6).toInt ∧ (u_11.1 6).toInt + 4 ≤ N := by omega
          refine wq_X7_goesWait q105394 p105476 p105477 (fun r_34 u_35 q105478 q105479 q105480 q105481 => ?_)
          have := q105478.1
          have := q105478.2.1
          refine ⟨(nb_b (by omega)), ?_⟩
          have p105482 : ie [1, 2, 6, 7, 8, 9, 10, 11, 12, 13, 14] u_35.1 s0.1 := (ie_tr q105479 (by decide) (ie_tr q105395 (by decide) (ie_tr q105384 (by decide) (ie_tr q105373 (by decide) (ie_tr q105362 (by decide) (ie_refl _ _))))))
          have p105483 : (r_34).toInt = 0 ∨ (r_34).toInt = 1 := by omega
          have p105484 : (s0.1 6).toInt ≤ (u_35.1 6).toInt ∧ (u_35.1 6).toInt ≤ N := by omega
          have : (u_35.1 14).toInt = (u_11.1 14).toInt := ie_i q105479 14 (by decide)
          have : (u_11.1 14).toInt = (u_8.1 14).toInt := ie_i q105395 14 (by decide)
          have : (u_8.1 14).toInt = (u_5.1 14).toInt := ie_i q105384 14 (by decide)
          have : (u_5.1 14).toInt = (u_2.1 14).toInt := ie_i q105373 14 (by decide)
          have : (u_2.1 14).toInt = (s0.1 14).toInt := ie_i q105362 14 (by decide)
          have p105485 : (r_34).toInt = 0 ∨ (u_35.1 14).toInt = (s0.1 14).toInt := by omega
          exact k _ _ q105478 p105482 p105483 p105484 p105485
      · replace c105391 := q_neq c105391
        rw [li_0] at c105391
        have p105486 : 0 < D := by omega
        have p105487 : 0 ≤ (u_8.1 6).toInt ∧ (u_8.1 6).toInt + 4 ≤ N := by omega
        refine wq_X7_goesHome q105383 p105486 p105487 (fun r_37 u_38 q105488 q105489 q105490 q105491 => ?_)
        have := q105488.1
        have := q105488.2.1
        refine ⟨(nb_b (by omega)), ?_⟩
        have p105492 : ie [1, 2, 6, 7, 8, 9, 10, 11, 12, 13, 14] u_38.1 s0.1 := (ie_tr q105489 (by decide) (ie_tr q105384 (by decide) (ie_tr q105373 (by decide) (ie_tr q105362 (by decide) (ie_refl _ _)))))
        have p105493 : (r_37).toInt = 0 ∨ (r_37).toInt = 1 := by omega
        have p105494 : (s0.1 6).toInt ≤ (u_38.1 6).toInt ∧ (u_38.1 6).toInt ≤ N := by omega
        have : (u_38.1 14).toInt = (u_8.1 14).toInt := ie_i q105489 14 (by decide)
        have : (u_8.1 14).toInt = (u_5.1 14).toInt := ie_i q105384 14 (by decide)
        have : (u_5.1 14).toInt = (u_2.1 14).toInt := ie_i q105373 14 (by decide)
        have : (u_2.1 14).toInt = (s0.1 14).toInt := ie_i q105362 14 (by decide)
        have p105495 : (r_37).toInt = 0 ∨ (u_38.1 14).toInt = (s0.1 14).toInt := by omega
        exact k _ _ q105488 p105492 p105493 p105494 p105495
    · replace c105380 := q_neq c105380
      rw [li_0] at c105380
      have p105496 : 0 < D := by omega
      have p105497 : 0 ≤ (u_5.1 6).toInt ∧ (u_5.1 6).toInt + 6 ≤ N := by omega
      refine wq_X7_goesScroll q105372 p105496 p105497 (fun r_40 u_41 q105498 q105499 q105500 q105501 => ?_)
      have := q105498.1
      have := q105498.2.1
      refine ⟨(nb_b (by omega)), ?_⟩
      have p105502 : ie [1, 2, 6, 7, 8, 9, 10, 11, 12, 13, 14] u_41.1 s0.1 := (ie_tr q105499 (by decide) (ie_tr q105373 (by decide) (ie_tr q105362 (by decide) (ie_refl _ _))))
      have p105503 : (r_40).toInt = 0 ∨ (r_40).toInt = 1 := by omega
      have p105504 : (s0.1 6).toInt ≤ (u_41.1 6).toInt ∧ (u_41.1 6).toInt ≤ N := by omega
      have : (u_41.1 14).toInt = (u_5.1 14).toInt := ie_i q105499 14 (by decide)
      have : (u_5.1 14).toInt = (u_2.1 14).toInt := ie_i q105373 14 (by decide)
      have : (u_2.1 14).toInt = (s0.1 14).toInt := ie_i q105362 14 (by decide)
      have p105505 : (r_40).toInt = 0 ∨ (u_41.1 14).toInt = (s0.1 14).toInt := by omega
      exact k _ _ q105498 p105502 p105503 p105504 p105505
  · replace c105369 := q_neq c105369
    rw [li_0] at c105369
    have p105506 : 0 < D := by omega
    have p105507 : 0 ≤ (u_2.1 6).toInt ∧ (u_2.1 6).toInt + 3 ≤ N := by omega
    refine wq_X7_goesRow q105361 p105506 p105507 (fun r_43 u_44 q105508 q105509 q105510 q105511 => ?_)
    have := q105508.1
    have := q105508.2.1
    refine ⟨(nb_b (by omega)), ?_⟩
    have p105512 : ie [1, 2, 6, 7, 8, 9, 10, 11, 12, 13, 14] u_44.1 s0.1 := (ie_tr q105509 (by decide) (ie_tr q105362 (by decide) (ie_refl _ _)))
    have p105513 : (r_43).toInt = 0 ∨ (r_43).toInt = 1 := by omega
    have p105514 : (s0.1 6).toInt ≤ (u_44.1 6).toInt ∧ (u_44.1 6).toInt ≤ N := by omega
    have : (u_44.1 14).toInt = (u_2.1 14).toInt := ie_i q105509 14 (by decide)
    have : (u_2.1 14).toInt = (s0.1 14).toInt := ie_i q105362 14 (by decide)
    have p105515 : (r_43).toInt = 0 ∨ (u_44.1 14).toInt = (s0.1 14).toInt := by omega
    exact k _ _ q105508 p105512 p105513 p105514 p105515
