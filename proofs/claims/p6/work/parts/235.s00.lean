theorem wq_X7_flapFor_L5 {s0 : Md} {post : Int32 → Prop} {e95 : Int32 → Int32 → Int32 → Int32 → Prop} {N R W D F : Int} (h100076 : mb (N) (R) (W) (D) s0) (h100077 : 0 < D) (ke95 : ∀ (z1 : Int32) (z2 : Int32) (z3 : Int32) (z4 : Int32), 0 ≤ (z1).toInt ∧ (z1).toInt < 40 → fl_c ((s0.2.2.1 0)) z1 = F → 0 ≤ (z4).toInt ∧ (z4).toInt ≤ F ∧ F ≤ 40 → (z3).toInt = -1 ∨ (0 ≤ (z3).toInt ∧ (z3).toInt < F) → e95 z1 z2 z3 z4) : ∀ (n : Nat) (z1 : Int32) (z2 : Int32) (z3 : Int32) (z4 : Int32), 0 ≤ (z1).toInt ∧ (z1).toInt < 40 → fl_c ((s0.2.2.1 0)) z1 = F → 0 ≤ (z4).toInt ∧ (z4).toInt ≤ F ∧ F ≤ 40 → (z3).toInt = -1 ∨ (0 ≤ (z3).toInt ∧ (z3).toInt < F) → 40 - (z4).toInt < (n : Int) → wp_X7_flapFor_L5 s0 post e95 n z1 z2 z3 z4 := by
  have := h100076.1
  have := h100076.2.1
  have := h100076.2.2.1
  have := h100076.2.2.2.1
  intro n
  induction n with
  | zero =>
    intro z1 z2 z3 z4 i100078 i100079 i100080 i100081 i100082
    exfalso
    omega
  | succ n ih =>
    intro z1 z2 z3 z4 i100078 i100079 i100080 i100081 i100082
    unfold wp_X7_flapFor_L5
    have p100083 : 0 ≤ (z1).toInt ∧ (z1).toInt < 40 := by omega
    refine wq_X7_flaps h100076 p100083 (fun r_1 q100084 => ?_)
    refine ⟨fun c100085 => ?_, fun c100086 => ?_⟩
    · replace c100085 := q_le c100085
      have p100087 : 0 ≤ (z1).toInt ∧ (z1).toInt < 40 := by omega
      try have := rw_k h100076.2.2.2.2.1 (show 0 ≤ (z1).toInt ∧ (z1).toInt < 40 by omega)
      have p100088 : fl_c ((s0.2.2.1 0)) z1 = F := by omega
      have p100089 : 0 ≤ (z4).toInt ∧ (z4).toInt ≤ F ∧ F ≤ 40 := by omega
      have p100090 : (z3).toInt = -1 ∨ (0 ≤ (z3).toInt ∧ (z3).toInt < F) := by omega
      exact ke95 _ _ _ _ p100087 p100088 p100089 p100090
    · replace c100086 := q_nle c100086
      have p100091 : 0 ≤ (z1).toInt ∧ (z1).toInt < 40 := by omega
      refine wq_X7_of_0 h100076 p100091 (fun r_4 q100092 q100093 => ?_)
      have p100094 : 0 ≤ (r_4).toInt ∧ (r_4).toInt < 4 := by omega
      have p100095 : 0 ≤ (z4).toInt ∧ (z4).toInt < 40 := by omega
      refine wq_X7_signOf p100094 p100095 (fun r_6 => ?_)
      refine ⟨fun c100096 => ?_, fun c100097 => ?_⟩
      · replace c100096 := q_neq c100096
        have p100098 : 0 ≤ (z1).toInt ∧ (z1).toInt < 40 := by omega
        try have := rw_k h100076.2.2.2.2.1 (show 0 ≤ (z1).toInt ∧ (z1).toInt < 40 by omega)
        have p100099 : fl_c ((s0.2.2.1 0)) z1 = F := by omega
        have e100100 := tq_addr li_1 z4
        try rw [Int.emod_eq_of_lt (show 0 ≤ (z4).toInt + 1 + 2147483648 by omega) (show (z4).toInt + 1 + 2147483648 < 4294967296 by omega)] at e100100
        have p100101 : 0 ≤ (z4 + 1).toInt ∧ (z4 + 1).toInt ≤ F ∧ F ≤ 40 := by omega
        have p100102 : (z3).toInt = -1 ∨ (0 ≤ (z3).toInt ∧ (z3).toInt < F) := by omega
        have p100103 : 40 - (z4 + 1).toInt < ((n : Nat) : Int) := by (omega)
        exact ih _ _ _ _ p100098 p100099 p100101 p100102 p100103
      · replace c100097 := q_eq c100097
        have p100104 : 0 ≤ (z1).toInt ∧ (z1).toInt < 40 := by omega
        refine wq_X7_wornOf p100104 (fun r_9 => ?_)
        refine wq_X7_isIn (fun r_11 q100105 => ?_)
        refine ⟨fun c100106 => ?_, fun c100107 => ?_⟩
        · replace c100106 := q_eq c100106
          rw [li_0] at c100106
          refine ⟨fun c100108 => ?_, fun c100109 => ?_⟩
          · replace c100108 := q_eq c100108
            rw [li_m1] at c100108
            have p100110 : 0 ≤ (z1).toInt ∧ (z1).toInt < 40 := by omega
            try have := rw_k h100076.2.2.2.2.1 (show 0 ≤ (z1).toInt ∧ (z1).toInt < 40 by omega)
            have p100111 : fl_c ((s0.2.2.1 0)) z1 = F := by omega
            have e100112 := tq_addr li_1 z4
            try rw [Int.emod_eq_of_lt (show 0 ≤ (z4).toInt + 1 + 2147483648 by omega) (show (z4).toInt + 1 + 2147483648 < 4294967296 by omega)] at e100112
            have p100113 : 0 ≤ (z4 + 1).toInt ∧ (z4 + 1).toInt ≤ F ∧ F ≤ 40 := by omega
            have p100114 : (z4).toInt = -1 ∨ (0 ≤ (z4).toInt ∧ (z4).toInt < F) := by omega
            have p100115 : 40 - (z4 + 1).toInt < ((n : Nat) : Int) := by (omega)
            exact ih _ _ _ _ p100110 p100111 p100113 p100114 p100115
          · replace c100109 := q_neq c100109
            rw [li_m1] at c100109
            have p100116 : 0 ≤ (z1).toInt ∧ (z1).toInt < 40 := by omega
            refine wq_X7_of_2 h100076 p100116 (fun r_15 q100117 q100118 => ?_)
            have p100119 : 0 ≤ (z1).toInt ∧ (z1).toInt < 40 := by omega
            refine wq_X7_flaps h100076 p100119 (fun r_17 q100120 => ?_)
            have p100121 : 1 ≤ (r_17).toInt ∧ (r_17).toInt ≤ 40 := by omega
            have p100122 : 0 ≤ (r_15).toInt ∧ (r_15).toInt < (r_17).toInt := by omega
            have p100123 : 0 ≤ (z4).toInt ∧ (z4).toInt < (r_17).toInt := by omega
            refine wq_X7_on p100121 p100122 p100123 (fun r_19 q100124 => ?_)
            have p100125 : 0 ≤ (z1).toInt ∧ (z1).toInt < 40 := by omega
            refine wq_X7_of_2 h100076 p100125 (fun r_21 q100126 q100127 => ?_)
            have p100128 : 0 ≤ (z1).toInt ∧ (z1).toInt < 40 := by omega
            refine wq_X7_flaps h100076 p100128 (fun r_23 q100129 => ?_)
            have p100130 : 1 ≤ (r_23).toInt ∧ (r_23).toInt ≤ 40 := by omega
            have p100131 : 0 ≤ (r_21).toInt ∧ (r_21).toInt < (r_23).toInt := by omega
            have p100132 : 0 ≤ (z3).toInt ∧ (z3).toInt < (r_23).toInt := by omega
            refine wq_X7_on p100130 p100131 p100132 (fun r_25 q100133 => ?_)
            refine ⟨fun c100134 => ?_, fun c100135 => ?_⟩
            · replace c100134 := q_le c100134
              have p100136 : 0 ≤ (z1).toInt ∧ (z1).toInt < 40 := by omega
              try have := rw_k h100076.2.2.2.2.1 (show 0 ≤ (z1).toInt ∧ (z1).toInt < 40 by omega)
              have p100137 : fl_c ((s0.2.2.1 0)) z1 = F := by omega
              have e100138 := tq_addr li_1 z4
              try rw [Int.emod_eq_of_lt (show 0 ≤ (z4).toInt + 1 + 2147483648 by omega) (show (z4).toInt + 1 + 2147483648 < 4294967296 by omega)] at e100138
              have p100139 : 0 ≤ (z4 + 1).toInt ∧ (z4 + 1).toInt ≤ F ∧ F ≤ 40 := by omega
              have p100140 : (z3).toInt = -1 ∨ (0 ≤ (z3).toInt ∧ (z3).toInt < F) := by omega
              have p100141 : 40 - (z4 + 1).toInt < ((n : Nat) : Int) := by (omega)
              exact ih _ _ _ _ p100136 p100137 p100139 p100140 p100141
            · replace c100135 := q_nle c100135
              have p100142 : 0 ≤ (z1).toInt ∧ (z1).toInt < 40 := by omega
              try have := rw_k h100076.2.2.2.2.1 (show 0 ≤ (z1).toInt ∧ (z1).toInt < 40 by omega)
              have p100143 : fl_c ((s0.2.2.1 0)) z1 = F := by omega
              have e100144 := tq_addr li_1 z4
              try rw [Int.emod_eq_of_lt (show 0 ≤ (z4).toInt + 1 + 2147483648 by omega) (show (z4).toInt + 1 + 2147483648 < 4294967296 by omega)] at e100144
              have p100145 : 0 ≤ (z4 + 1).toInt ∧ (z4 + 1).toInt ≤ F ∧ F ≤ 40 := by omega
              have p100146 : (z4).toInt = -1 ∨ (0 ≤ (z4).toInt ∧ (z4).toInt < F) := by omega
              have p100147 : 40 - (z4 + 1).toInt < ((n : Nat) : Int) := by (omega)
              exact ih _ _ _ _ p100142 p100143 p100145 p100146 p100147
        · replace c100107 := q_neq c100107
          rw [li_0] at c100107
          have p100148 : 0 ≤ (z1).toInt ∧ (z1).toInt < 40 := by omega
          try have := rw_k h100076.2.2.2.2.1 (show 0 ≤ (z1).toInt ∧ (z1).toInt < 40 by omega)
          have p100149 : fl_c ((s0.2.2.1 0)) z1 = F := by omega
          have e100150 := tq_addr li_1 z4
          try rw [Int.emod_eq_of_lt (show 0 ≤ (z4).toInt + 1 + 2147483648 by omega) (show (z4).toInt + 1 + 2147483648 < 4294967296 by omega)] at e100150
          have p100151 : 0 ≤ (z4 + 1).toInt ∧ (z4 + 1).toInt ≤ F ∧ F ≤ 40 := by omega
          have p100152 : (z3).toInt = -1 ∨ (0 ≤ (z3).toInt ∧ (z3).toInt < F) := by omega
          have p100153 : 40 - (z4 + 1).toInt < ((n : Nat) : Int) := by (omega)
          exact ih _ _ _ _ p100148 p100149 p100151 p100152 p100153
theorem wq_X7_flapFor {post : Int32 → Prop} {s0 : Md} {x1 : Int32} {x2 : Int32} {N R W D : Int} (h100154 : mb (N) (R) (W) (D) s0) (h100155 : 0 ≤ (x1).toInt ∧ (x1).toInt < 40) (h100156 : 0 < D) (k : ∀ (r : Int32), -1 ≤ (r).toInt ∧ (r).toInt ≤ 39 ∧ ((r).toInt = -1 ∨ (r).toInt < fl_c ((s0.2.2.1 0)) x1) → post r) : wp_X7_flapFor post s0 x1 x2 := by
  unfold wp_X7_flapFor
  have := h100154.1
  have := h100154.2.1
  have := h100154.2.2.1
  have := h100154.2.2.2.1
  have p100157 : 0 < D := by omega
  have p100158 : 0 ≤ (x1).toInt ∧ (x1).toInt < 40 := by omega
  try have := rw_k h100154.2.2.2.2.1 (show 0 ≤ (x1).toInt ∧ (x1).toInt < 40 by omega)
  have p100159 : fl_c ((s0.2.2.1 0)) x1 = (fl_c ((s0.2.2.1 0)) x1) := by omega
  have p100160 : 0 ≤ (0 : Int32).toInt ∧ (0 : Int32).toInt ≤ (fl_c ((s0.2.2.1 0)) x1) ∧ (fl_c ((s0.2.2.1 0)) x1) ≤ 40 := by (have := li_0; omega)
  have p100161 : (-1 : Int32).toInt = -1 ∨ (0 ≤ (-1 : Int32).toInt ∧ (-1 : Int32).toInt < (fl_c ((s0.2.2.1 0)) x1)) := by (have := li_m1; omega)
  obtain ⟨f100162, g100163⟩ := fu_e 50
  have p100164 : 40 - (0 : Int32).toInt < (f100162 : Int) := by (have := li_0; omega)
  refine ⟨f100162, wq_X7_flapFor_L5 h100154 p100157 (fun z1 z2 z3 z4 q100165 q100166 q100167 q100168 => ?_) f100162 _ _ _ _ p100158 p100159 p100160 p100161 p100164⟩
  have p100169 : -1 ≤ (z3).toInt ∧ (z3).toInt ≤ 39 ∧ ((z3).toInt = -1 ∨ (z3).toInt < fl_c ((s0.2.2.1 0)) x1) := by omega
  exact k _ p100169
theorem wq_X7_wantsFlap {post : Md → Prop} {s0 : Md} {x1 : Int32} {x2 : Int32} {x3 : Int32} {N R W D : Int} (h100170 : mb (N) (R) (W) (D) s0) (h100171 : 0 ≤ (x1).toInt ∧ (x1).toInt < 40) (h100172 : 0 < D) (h100173 : 0 ≤ (x2).toInt ∧ (x2).toInt ≤ 39 ∧ (x2).toInt < fl_c ((s0.2.2.1 0)) x1) (k : ∀ (u : Md), mb (N) (R) (W) (D) u → ie [] u.1 s0.1 → post u) : wp_X7_wantsFlap post s0 x1 x2 x3 := by
  unfold wp_X7_wantsFlap
  have := h100170.1
  have := h100170.2.1
  have := h100170.2.2.1
  have := h100170.2.2.2.1
  have p100174 : 0 ≤ (x1).toInt ∧ (x1).toInt < 40 := by omega
  have := tq_64 x2
  try have := rw_k h100170.2.2.2.2.1 (show 0 ≤ (x1).toInt ∧ (x1).toInt < 40 by omega)
  have p100175 : 0 ≤ (Int32.toInt64 x2).toInt ∧ ((D ≤ 0 ∧ (Int32.toInt64 x2).toInt = 0) ∨ (0 < D ∧ (Int32.toInt64 x2).toInt < fl_c ((s0.2.2.1 0)) x1)) := by omega
  refine wq_X7_sets_3 h100170 p100174 p100175 (fun u_2 q100176 q100177 q100178 => ?_)
  have := q100176.1
  have := q100176.2.1
  refine ⟨fun c100179 => ?_, fun c100180 => ?_⟩
  · replace c100179 := q_eq c100179
    rw [li_0] at c100179
    have p100181 : ie [] u_2.1 s0.1 := (ie_tr q100177 (by decide) (ie_refl _ _))
    exact k _ q100176 p100181
  · replace c100180 := q_neq c100180
    rw [li_0] at c100180
    have p100182 : 0 ≤ (x1).toInt ∧ (x1).toInt < 40 := by omega
    refine wq_X7_of_2 q100176 p100182 (fun r_4 q100183 q100184 => ?_)
    refine ⟨fun c100185 => ?_, fun c100186 => ?_⟩
    · replace c100185 := q_eq c100185
      have p100187 : ie [] u_2.1 s0.1 := (ie_tr q100177 (by decide) (ie_refl _ _))
      exact k _ q100176 p100187
    · replace c100186 := q_neq c100186
      have p100188 : 0 ≤ (x1).toInt ∧ (x1).toInt < 40 := by omega
      refine wq_X7_of_0 q100176 p100188 (fun r_7 q100189 q100190 => ?_)
      have p100191 : 0 ≤ (x1).toInt ∧ (x1).toInt < 40 := by omega
      refine wq_X7_of_2 q100176 p100191 (fun r_9 q100192 q100193 => ?_)
      have e100194 := tq_mulc li_40 r_7
      try rw [Int.emod_eq_of_lt (show 0 ≤ 40 * (r_7).toInt + 2147483648 by omega) (show 40 * (r_7).toInt + 2147483648 < 4294967296 by omega)] at e100194
      have e100195 := tq_add (40 * r_7) r_9
      try rw [Int.emod_eq_of_lt (show 0 ≤ (40 * r_7).toInt + (r_9).toInt + 2147483648 by omega) (show (40 * r_7).toInt + (r_9).toInt + 2147483648 < 4294967296 by omega)] at e100195
      have e100196 := tq_mulc li_40 ((40 * r_7) + r_9)
      try rw [Int.emod_eq_of_lt (show 0 ≤ 40 * ((40 * r_7) + r_9).toInt + 2147483648 by omega) (show 40 * ((40 * r_7) + r_9).toInt + 2147483648 < 4294967296 by omega)] at e100196
      have e100197 := tq_addc li_496 (40 * ((40 * r_7) + r_9))
      try rw [Int.emod_eq_of_lt (show 0 ≤ 496 + (40 * ((40 * r_7) + r_9)).toInt + 2147483648 by omega) (show 496 + (40 * ((40 * r_7) + r_9)).toInt + 2147483648 < 4294967296 by omega)] at e100197
      have e100198 := tq_add (496 + (40 * ((40 * r_7) + r_9))) x2
      try rw [Int.emod_eq_of_lt (show 0 ≤ (496 + (40 * ((40 * r_7) + r_9))).toInt + (x2).toInt + 2147483648 by omega) (show (496 + (40 * ((40 * r_7) + r_9))).toInt + (x2).toInt + 2147483648 < 4294967296 by omega)] at e100198
      have v100199 : vp_in ((496 + (40 * ((40 * r_7) + r_9))) + x2) 6896 := vi (by omega) (by omega)
      refine ⟨v100199, ?_⟩
      refine ⟨v100199, ?_⟩
      have : (u_2.1 5).toInt = (s0.1 5).toInt := ie_i q100177 5 (by decide)
      have p100200 : (u_2.1 5).toInt = N := by omega
      have : (u_2.1 0).toInt = (s0.1 0).toInt := ie_i q100177 0 (by decide)
      have p100201 : 0 ≤ (u_2.1 0).toInt ∧ (u_2.1 0).toInt ≤ 10 := by omega
      have p100202 : 0 ≤ N ∧ N ≤ 400 := by omega
      have p100203 : 0 ≤ R ∧ R ≤ 6 ∧ 0 ≤ W ∧ W ≤ 10 ∧ 0 ≤ R * W ∧ R * W ≤ 40 ∧ 0 ≤ D ∧ D ≤ 4 ∧ (D ≤ 0 ∨ 1 ≤ R) ∧ (1 ≤ R ∨ R * W = 0) := by omega
      have B100204 : mb (N) (R) (W) (D) (u_2.1, u_2.2.1, (va_up u_2.2.2.1 0 (vp_updL (u_2.2.2.1 0) (Int32.toNatClampNeg ((496 + (40 * ((40 * r_7) + r_9))) + x2)) ((u_2.2.2.1 0 (Int32.toNatClampNeg ((496 + (40 * ((40 * r_7) + r_9))) + x2))) + 1))), u_2.2.2.2) := ⟨p100200, p100201, p100202, p100203, (rw_irr q100176.2.2.2.2.1 (by rw [tn_i]; unfold rw_rel; omega)), q100176.2.2.2.2.2.1, q100176.2.2.2.2.2.2.1, q100176.2.2.2.2.2.2.2⟩
      have p100205 : ie [] u_2.1 s0.1 := (ie_tr q100177 (by decide) (ie_refl _ _))
      exact k _ B100204 p100205
theorem wq_X7_wantsSigns_L6 {post : Int32 → Md → Prop} {e81 : Md → Int32 → Int32 → Int32 → Int32 → Int32 → Int32 → Prop} {D N R W : Int} {A : Nat → Int32} (h100206 : 0 < D) (ke81 : ∀ (t0 : Md) (z1 : Int32) (z2 : Int32) (z3 : Int32) (z4 : Int32) (z5 : Int32) (z6 : Int32), mb (N) (R) (W) (D) t0 → ie [] t0.1 A → 0 ≤ (z1).toInt ∧ (z1).toInt < R → 0 ≤ (z6).toInt ∧ (z6).toInt ≤ W → 0 ≤ (z2).toInt ∧ 0 ≤ (z3).toInt ∧ (z2).toInt + (z3).toInt ≤ 400 → e81 t0 z1 z2 z3 z4 z5 z6) : ∀ (n : Nat) (t0 : Md) (z1 : Int32) (z2 : Int32) (z3 : Int32) (z4 : Int32) (z5 : Int32) (z6 : Int32), mb (N) (R) (W) (D) t0 → ie [] t0.1 A → 0 ≤ (z1).toInt ∧ (z1).toInt < R → 0 ≤ (z6).toInt ∧ (z6).toInt ≤ W → 0 ≤ (z2).toInt ∧ 0 ≤ (z3).toInt ∧ (z2).toInt + (z3).toInt ≤ 400 → W - (z6).toInt < (n : Int) → wp_X7_wantsSigns_L6 post e81 n t0 z1 z2 z3 z4 z5 z6 := by
  intro n
  induction n with
  | zero =>
    intro t0 z1 z2 z3 z4 z5 z6 i100207 i100208 i100209 i100210 i100211 i100212
    have := i100207.1
    have := i100207.2.1
    have := i100207.2.2.1
    have := i100207.2.2.2.1
    exfalso
    omega
  | succ n ih =>
    intro t0 z1 z2 z3 z4 z5 z6 i100207 i100208 i100209 i100210 i100211 i100212
    unfold wp_X7_wantsSigns_L6
    have := i100207.1
    have := i100207.2.1
    have := i100207.2.2.1
    have := i100207.2.2.2.1
    refine wq_X7_wide i100207 (fun r_1 q100213 => ?_)
    refine ⟨fun c100214 => ?_, fun c100215 => ?_⟩
    · replace c100214 := q_le c100214
      have p100216 : ie [] t0.1 A := (ie_tr i100208 (by decide) (ie_refl _ _))
      have p100217 : 0 ≤ (z1).toInt ∧ (z1).toInt < R := by omega
      have p100218 : 0 ≤ (z6).toInt ∧ (z6).toInt ≤ W := by omega
      have p100219 : 0 ≤ (z2).toInt ∧ 0 ≤ (z3).toInt ∧ (z2).toInt + (z3).toInt ≤ 400 := by omega
      exact ke81 _ _ _ _ _ _ _ i100207 p100216 p100217 p100218 p100219
    · replace c100215 := q_nle c100215
      refine wq_X7_wide i100207 (fun r_4 q100220 => ?_)
      refine ⟨fun c100221 => ?_, fun c100222 => ?_⟩
      · replace c100221 := q_le c100221
        have := rw_r (a := z1) (b := r_4) (R := R) (W := W) (by omega) (by omega) (by omega)
        have e100223 := tq_add (r_4 * z1) z6
        try rw [Int.emod_eq_of_lt (show 0 ≤ (r_4 * z1).toInt + (z6).toInt + 2147483648 by omega) (show (r_4 * z1).toInt + (z6).toInt + 2147483648 < 4294967296 by omega)] at e100223
        have p100224 : 0 ≤ ((r_4 * z1) + z6).toInt ∧ ((r_4 * z1) + z6).toInt < 40 := by omega
        have p100225 : 0 < D := by omega
        try have := rw_k i100207.2.2.2.2.1 (show 0 ≤ (((r_4 * z1) + z6)).toInt ∧ (((r_4 * z1) + z6)).toInt < 40 by omega)
        have p100226 : 0 ≤ ((0 : Int32)).toInt ∧ ((0 : Int32)).toInt ≤ 39 ∧ ((0 : Int32)).toInt < fl_c ((t0.2.2.1 0)) ((r_4 * z1) + z6) := by (have := li_0; omega)
        refine wq_X7_wantsFlap i100207 p100224 p100225 p100226 (fun u_8 q100227 q100228 => ?_)
        have := q100227.1
        have := q100227.2.1
        have p100229 : ie [] u_8.1 A := (ie_tr q100228 (by decide) (ie_tr i100208 (by decide) (ie_refl _ _)))
        have p100230 : 0 ≤ (z1).toInt ∧ (z1).toInt < R := by omega
        have e100231 := tq_addr li_1 z6
        try rw [Int.emod_eq_of_lt (show 0 ≤ (z6).toInt + 1 + 2147483648 by omega) (show (z6).toInt + 1 + 2147483648 < 4294967296 by omega)] at e100231
        have p100232 : 0 ≤ (z6 + 1).toInt ∧ (z6 + 1).toInt ≤ W := by omega
        have p100233 : 0 ≤ (z2).toInt ∧ 0 ≤ (z3).toInt ∧ (z2).toInt + (z3).toInt ≤ 400 := by omega
        have p100234 : W - (z6 + 1).toInt < ((n : Nat) : Int) := by (omega)
        exact ih _ _ _ _ _ _ _ q100227 p100229 p100230 p100232 p100233 p100234
      · replace c100222 := q_nle c100222
        have e100235 := tq_add z2 z6
        try rw [Int.emod_eq_of_lt (show 0 ≤ (z2).toInt + (z6).toInt + 2147483648 by omega) (show (z2).toInt + (z6).toInt + 2147483648 < 4294967296 by omega)] at e100235
        have v100236 : vp_in (z2 + z6) 400 := vi (by omega) (by omega)
        refine ⟨v100236, ?_⟩
        have := rw_r (a := z1) (b := r_4) (R := R) (W := W) (by omega) (by omega) (by omega)
        have e100237 := tq_add (r_4 * z1) z6
        try rw [Int.emod_eq_of_lt (show 0 ≤ (r_4 * z1).toInt + (z6).toInt + 2147483648 by omega) (show (r_4 * z1).toInt + (z6).toInt + 2147483648 < 4294967296 by omega)] at e100237
        have p100238 : 0 ≤ ((r_4 * z1) + z6).toInt ∧ ((r_4 * z1) + z6).toInt < 40 := by omega
        have p100239 : 0 < D := by omega
        refine wq_X7_flapFor i100207 p100238 p100239 (fun r_10 q100240 => ?_)
        refine ⟨fun c100241 => ?_, fun c100242 => ?_⟩
        · replace c100241 := q_neq c100241
          rw [li_m1] at c100241
          have p100243 : 0 ≤ ((r_4 * z1) + z6).toInt ∧ ((r_4 * z1) + z6).toInt < 40 := by omega
          have p100244 : 0 < D := by omega
          try have := rw_k i100207.2.2.2.2.1 (show 0 ≤ (((r_4 * z1) + z6)).toInt ∧ (((r_4 * z1) + z6)).toInt < 40 by omega)
          have p100245 : 0 ≤ (r_10).toInt ∧ (r_10).toInt ≤ 39 ∧ (r_10).toInt < fl_c ((t0.2.2.1 0)) ((r_4 * z1) + z6) := by omega
          refine wq_X7_wantsFlap i100207 p100243 p100244 p100245 (fun u_14 q100246 q100247 => ?_)
          have := q100246.1
          have := q100246.2.1
          have p100248 : ie [] u_14.1 A := (ie_tr q100247 (by decide) (ie_tr i100208 (by decide) (ie_refl _ _)))
          have p100249 : 0 ≤ (z1).toInt ∧ (z1).toInt < R := by omega
          have e100250 := tq_addr li_1 z6
          try rw [Int.emod_eq_of_lt (show 0 ≤ (z6).toInt + 1 + 2147483648 by omega) (show (z6).toInt + 1 + 2147483648 < 4294967296 by omega)] at e100250
          have p100251 : 0 ≤ (z6 + 1).toInt ∧ (z6 + 1).toInt ≤ W := by omega
          have p100252 : 0 ≤ (z2).toInt ∧ 0 ≤ (z3).toInt ∧ (z2).toInt + (z3).toInt ≤ 400 := by omega
          have p100253 : W - (z6 + 1).toInt < ((n : Nat) : Int) := by (omega)
          exact ih _ _ _ _ _ _ _ q100246 p100248 p100249 p100251 p100252 p100253
        · replace c100242 := q_eq c100242
          rw [li_m1] at c100242
          have p100254 : ie [] t0.1 A := (ie_tr i100208 (by decide) (ie_refl _ _))
          have p100255 : 0 ≤ (z1).toInt ∧ (z1).toInt < R := by omega
          have e100256 := tq_addr li_1 z6
          try rw [Int.emod_eq_of_lt (show 0 ≤ (z6).toInt + 1 + 2147483648 by omega) (show (z6).toInt + 1 + 2147483648 < 4294967296 by omega)] at e100256
          have p100257 : 0 ≤ (z6 + 1).toInt ∧ (z6 + 1).toInt ≤ W := by omega
          have p100258 : 0 ≤ (z2).toInt ∧ 0 ≤ (z3).toInt ∧ (z2).toInt + (z3).toInt ≤ 400 := by omega
          have p100259 : W - (z6 + 1).toInt < ((n : Nat) : Int) := by (omega)
          exact ih _ _ _ _ _ _ _ i100207 p100254 p100255 p100257 p100258 p100259
theorem wq_X7_wantsSigns {post : Int32 → Md → Prop} {s0 : Md} {x1 : Int32} {x2 : Int32} {x3 : Int32} {x4 : Int32} {N R W D : Int} (h100260 : mb (N) (R) (W) (D) s0) (h100261 : 0 < D) (h100262 : 0 ≤ (x1).toInt ∧ (x1).toInt < R) (h100263 : 0 ≤ (x2).toInt ∧ 0 ≤ (x3).toInt ∧ (x2).toInt + (x3).toInt ≤ 400) (k : ∀ (r : Int32) (u : Md), mb (N) (R) (W) (D) u → ie [] u.1 s0.1 → post r u) : wp_X7_wantsSigns post s0 x1 x2 x3 x4 := by
  unfold wp_X7_wantsSigns
  have := h100260.1
  have := h100260.2.1
  have := h100260.2.2.1
  have := h100260.2.2.2.1
  have p100264 : 0 < D := by omega
  have p100265 : ie [] s0.1 s0.1 := (ie_refl _ _)
  have p100266 : 0 ≤ (x1).toInt ∧ (x1).toInt < R := by omega
  have p100267 : 0 ≤ (0 : Int32).toInt ∧ (0 : Int32).toInt ≤ W := by (have := li_0; omega)
  have p100268 : 0 ≤ (x2).toInt ∧ 0 ≤ (x3).toInt ∧ (x2).toInt + (x3).toInt ≤ 400 := by omega
  obtain ⟨f100269, g100270⟩ := fu_e 50
  have p100271 : W - (0 : Int32).toInt < (f100269 : Int) := by (have := li_0; omega)
  refine ⟨f100269, wq_X7_wantsSigns_L6 p100264 (fun t0 z1 z2 z3 z4 z5 z6 q100272 q100273 q100274 q100275 q100276 => ?_) f100269 _ _ _ _ _ _ _ h100260 p100265 p100266 p100267 p100268 p100271⟩
  have := q100272.1
  have := q100272.2.1
  have p100277 : ie [] t0.1 s0.1 := (ie_tr q100273 (by decide) (ie_refl _ _))
  exact k _ _ q100272 p100277
theorem wq_X7_scrolls_L5 {post : Int32 → Md → Prop} {e45 : Md → Int32 → Int32 → Int32 → Int32 → Prop} {D N R W : Int} {A : Nat → Int32} (h100278 : 0 < D) (ke45 : ∀ (t0 : Md) (z1 : Int32) (z2 : Int32) (z3 : Int32) (z4 : Int32), mb (N) (R) (W) (D) t0 → ie [] t0.1 A → 0 ≤ (z4).toInt ∧ (z4).toInt ≤ R * W → 0 ≤ (z1).toInt ∧ 0 ≤ (z2).toInt ∧ (z1).toInt + (z2).toInt ≤ 400 → e45 t0 z1 z2 z3 z4) : ∀ (n : Nat) (t0 : Md) (z1 : Int32) (z2 : Int32) (z3 : Int32) (z4 : Int32), mb (N) (R) (W) (D) t0 → ie [] t0.1 A → 0 ≤ (z4).toInt ∧ (z4).toInt ≤ R * W → 0 ≤ (z1).toInt ∧ 0 ≤ (z2).toInt ∧ (z1).toInt + (z2).toInt ≤ 400 → R * W - (z4).toInt < (n : Int) → wp_X7_scrolls_L5 post e45 n t0 z1 z2 z3 z4 := by
  intro n
  induction n with
  | zero =>
    intro t0 z1 z2 z3 z4 i100279 i100280 i100281 i100282 i100283
    have := i100279.1
    have := i100279.2.1
    have := i100279.2.2.1
    have := i100279.2.2.2.1
    exfalso
    omega
  | succ n ih =>
    intro t0 z1 z2 z3 z4 i100279 i100280 i100281 i100282 i100283
    unfold wp_X7_scrolls_L5
    have := i100279.1
    have := i100279.2.1
    have := i100279.2.2.1
    have := i100279.2.2.2.1
    refine wq_X7_cells i100279 (fun r_1 q100284 => ?_)
    refine ⟨fun c100285 => ?_, fun c100286 => ?_⟩
    · replace c100285 := q_le c100285
      have p100287 : ie [] t0.1 A := (ie_tr i100280 (by decide) (ie_refl _ _))
      have p100288 : 0 ≤ (z4).toInt ∧ (z4).toInt ≤ R * W := by omega
      have p100289 : 0 ≤ (z1).toInt ∧ 0 ≤ (z2).toInt ∧ (z1).toInt + (z2).toInt ≤ 400 := by omega
      exact ke45 _ _ _ _ _ i100279 p100287 p100288 p100289
    · replace c100286 := q_nle c100286
      have p100290 : 0 ≤ (z4).toInt ∧ (z4).toInt < 40 := by omega
      refine wq_X7_of_0 i100279 p100290 (fun r_4 q100291 q100292 => ?_)
      have p100293 : 0 ≤ (z4).toInt ∧ (z4).toInt < 40 := by omega
      refine wq_X7_of_3 i100279 p100293 (fun r_6 q100294 q100295 => ?_)
      have p100296 : 0 ≤ (r_4).toInt ∧ (r_4).toInt < 4 := by omega
      have p100297 : 0 ≤ (r_6).toInt ∧ (r_6).toInt < 40 := by omega
      refine wq_X7_signOf p100296 p100297 (fun r_8 => ?_)
      have v100298 : vp_in z4 40 := vi (by omega) (by omega)
      refine ⟨v100298, ?_⟩
      have : (t0.1 5).toInt = (A 5).toInt := ie_i i100280 5 (by decide)
      have p100299 : (t0.1 5).toInt = N := by omega
      have : (t0.1 0).toInt = (A 0).toInt := ie_i i100280 0 (by decide)
      have p100300 : 0 ≤ (t0.1 0).toInt ∧ (t0.1 0).toInt ≤ 10 := by omega
      have p100301 : 0 ≤ N ∧ N ≤ 400 := by omega
      have p100302 : 0 ≤ R ∧ R ≤ 6 ∧ 0 ≤ W ∧ W ≤ 10 ∧ 0 ≤ R * W ∧ R * W ≤ 40 ∧ 0 ≤ D ∧ D ≤ 4 ∧ (D ≤ 0 ∨ 1 ≤ R) ∧ (1 ≤ R ∨ R * W = 0) := by omega
      have B100303 : mb (N) (R) (W) (D) (t0.1, t0.2.1, t0.2.2.1, (va_up t0.2.2.2 1 (upd (t0.2.2.2 1) (Int32.toNatClampNeg z4) r_8))) := ⟨p100299, p100300, p100301, p100302, i100279.2.2.2.2.1, i100279.2.2.2.2.2.1, i100279.2.2.2.2.2.2.1, i100279.2.2.2.2.2.2.2⟩
      have p100304 : ie [] t0.1 A := (ie_tr i100280 (by decide) (ie_refl _ _))
      have e100305 := tq_addr li_1 z4
      try rw [Int.emod_eq_of_lt (show 0 ≤ (z4).toInt + 1 + 2147483648 by omega) (show (z4).toInt + 1 + 2147483648 < 4294967296 by omega)] at e100305
      have p100306 : 0 ≤ (z4 + 1).toInt ∧ (z4 + 1).toInt ≤ R * W := by omega
      have p100307 : 0 ≤ (z1).toInt ∧ 0 ≤ (z2).toInt ∧ (z1).toInt + (z2).toInt ≤ 400 := by omega
      have p100308 : R * W - (z4 + 1).toInt < ((n : Nat) : Int) := by (omega)
      exact ih _ _ _ _ _ B100303 p100304 p100306 p100307 p100308
theorem wq_X7_scrolls_L48 {post : Int32 → Md → Prop} {e109 : Md → Int32 → Int32 → Int32 → Int32 → Prop} {D N R W : Int} {A : Nat → Int32} (h100309 : 0 < D) (ke109 : ∀ (t0 : Md) (z1 : Int32) (z2 : Int32) (z3 : Int32) (z4 : Int32), mb (N) (R) (W) (D) t0 → ie [] t0.1 A → 0 ≤ (z4).toInt ∧ (z4).toInt ≤ R * W → 0 ≤ (z1).toInt ∧ 0 ≤ (z2).toInt ∧ (z1).toInt + (z2).toInt ≤ 400 → e109 t0 z1 z2 z3 z4) : ∀ (n : Nat) (t0 : Md) (z1 : Int32) (z2 : Int32) (z3 : Int32) (z4 : Int32), mb (N) (R) (W) (D) t0 → ie [] t0.1 A → 0 ≤ (z4).toInt ∧ (z4).toInt ≤ R * W → 0 ≤ (z1).toInt ∧ 0 ≤ (z2).toInt ∧ (z1).toInt + (z2).toInt ≤ 400 → R * W - (z4).toInt < (n : Int) → wp_X7_scrolls_L48 post e109 n t0 z1 z2 z3 z4 := by
  intro n
  induction n with
  | zero =>
    intro t0 z1 z2 z3 z4 i100310 i100311 i100312 i100313 i100314
    have := i100310.1
    have := i100310.2.1
    have := i100310.2.2.1
    have := i100310.2.2.2.1
    exfalso
    omega
  | succ n ih =>
    intro t0 z1 z2 z3 z4 i100310 i100311 i100312 i100313 i100314
    unfold wp_X7_scrolls_L48
    have := i100310.1
    have := i100310.2.1
    have := i100310.2.2.1
    have := i100310.2.2.2.1
    refine wq_X7_wide i100310 (fun r_11 q100315 => ?_)
    refine wq_X7_cells i100310 (fun r_13 q100316 => ?_)
    refine ⟨fun c100317 => ?_, fun c100318 => ?_⟩
    · replace c100317 := q_le c100317
      have e100319 := tq_add z4 r_11
      try rw [Int.emod_eq_of_lt (show 0 ≤ (z4).toInt + (r_11).toInt + 2147483648 by omega) (show (z4).toInt + (r_11).toInt + 2147483648 < 4294967296 by omega)] at e100319
      have p100320 : ie [] t0.1 A := (ie_tr i100311 (by decide) (ie_refl _ _))
      have p100321 : 0 ≤ (z4).toInt ∧ (z4).toInt ≤ R * W := by omega
      have p100322 : 0 ≤ (z1).toInt ∧ 0 ≤ (z2).toInt ∧ (z1).toInt + (z2).toInt ≤ 400 := by omega
      exact ke109 _ _ _ _ _ i100310 p100320 p100321 p100322
    · replace c100318 := q_nle c100318
      have e100323 := tq_add z4 r_11
      try rw [Int.emod_eq_of_lt (show 0 ≤ (z4).toInt + (r_11).toInt + 2147483648 by omega) (show (z4).toInt + (r_11).toInt + 2147483648 < 4294967296 by omega)] at e100323
      refine wq_X7_wide i100310 (fun r_16 q100324 => ?_)
      have e100325 := tq_add z4 r_16
      try rw [Int.emod_eq_of_lt (show 0 ≤ (z4).toInt + (r_16).toInt + 2147483648 by omega) (show (z4).toInt + (r_16).toInt + 2147483648 < 4294967296 by omega)] at e100325
      have v100326 : vp_in (z4 + r_16) 40 := vi (by omega) (by omega)
      refine ⟨v100326, ?_⟩
      have p100327 : 0 ≤ (z4).toInt ∧ (z4).toInt < 40 := by omega
      have p100328 : 0 < D := by omega
      refine wq_X7_flapFor i100310 p100327 p100328 (fun r_19 q100329 => ?_)
      refine ⟨fun c100330 => ?_, fun c100331 => ?_⟩
      · replace c100330 := q_neq c100330
        rw [li_m1] at c100330
        have p100332 : 0 ≤ (z4).toInt ∧ (z4).toInt < 40 := by omega
        have p100333 : 0 < D := by omega
        try have := rw_k i100310.2.2.2.2.1 (show 0 ≤ (z4).toInt ∧ (z4).toInt < 40 by omega)
        have p100334 : 0 ≤ (r_19).toInt ∧ (r_19).toInt ≤ 39 ∧ (r_19).toInt < fl_c ((t0.2.2.1 0)) z4 := by omega
        refine wq_X7_wantsFlap i100310 p100332 p100333 p100334 (fun u_23 q100335 q100336 => ?_)
        have := q100335.1
        have := q100335.2.1
        have p100337 : ie [] u_23.1 A := (ie_tr q100336 (by decide) (ie_tr i100311 (by decide) (ie_refl _ _)))
        have e100338 := tq_addr li_1 z4
        try rw [Int.emod_eq_of_lt (show 0 ≤ (z4).toInt + 1 + 2147483648 by omega) (show (z4).toInt + 1 + 2147483648 < 4294967296 by omega)] at e100338
        have p100339 : 0 ≤ (z4 + 1).toInt ∧ (z4 + 1).toInt ≤ R * W := by omega
        have p100340 : 0 ≤ (z1).toInt ∧ 0 ≤ (z2).toInt ∧ (z1).toInt + (z2).toInt ≤ 400 := by omega
        have p100341 : R * W - (z4 + 1).toInt < ((n : Nat) : Int) := by (omega)
        exact ih _ _ _ _ _ q100335 p100337 p100339 p100340 p100341
      · replace c100331 := q_eq c100331
        rw [li_m1] at c100331
        have p100342 : ie [] t0.1 A := (ie_tr i100311 (by decide) (ie_refl _ _))
        have e100343 := tq_addr li_1 z4
        try rw [Int.emod_eq_of_lt (show 0 ≤ (z4).toInt + 1 + 2147483648 by omega) (show (z4).toInt + 1 + 2147483648 < 4294967296 by omega)] at e100343
        have p100344 : 0 ≤ (z4 + 1).toInt ∧ (z4 + 1).toInt ≤ R * W := by omega
        have p100345 : 0 ≤ (z1).toInt ∧ 0 ≤ (z2).toInt ∧ (z1).toInt + (z2).toInt ≤ 400 := by omega
        have p100346 : R * W - (z4 + 1).toInt < ((n : Nat) : Int) := by (omega)
        exact ih _ _ _ _ _ i100310 p100342 p100344 p100345 p100346
theorem wq_X7_scrolls {post : Int32 → Md → Prop} {s0 : Md} {x1 : Int32} {x2 : Int32} {N R W D : Int} (h100347 : mb (N) (R) (W) (D) s0) (h100348 : 0 < D) (h100349 : 0 ≤ (x1).toInt ∧ 0 ≤ (x2).toInt ∧ (x1).toInt + (x2).toInt ≤ 400) (k : ∀ (r : Int32) (u : Md), mb (N) (R) (W) (D) u → ie [] u.1 s0.1 → post r u) : wp_X7_scrolls post s0 x1 x2 := by
  unfold wp_X7_scrolls
  have := h100347.1
  have := h100347.2.1
  have := h100347.2.2.1
  have := h100347.2.2.2.1
  have p100350 : 0 < D := by omega
  have p100351 : ie [] s0.1 s0.1 := (ie_refl _ _)
  have p100352 : 0 ≤ (0 : Int32).toInt ∧ (0 : Int32).toInt ≤ R * W := by (have := li_0; omega)
  have p100353 : 0 ≤ (x1).toInt ∧ 0 ≤ (x2).toInt ∧ (x1).toInt + (x2).toInt ≤ 400 := by omega
  obtain ⟨f100354, g100355⟩ := fu_e 50
  have p100356 : R * W - (0 : Int32).toInt < (f100354 : Int) := by (have := li_0; omega)
  refine ⟨f100354, wq_X7_scrolls_L5 p100350 (fun t0 z1 z2 z3 z4 q100357 q100358 q100359 q100360 => ?_) f100354 _ _ _ _ _ h100347 p100351 p100352 p100353 p100356⟩
  have := q100357.1
  have := q100357.2.1
  have p100361 : 0 < D := by omega
  have p100362 : ie [] t0.1 t0.1 := (ie_refl _ _)
  have p100363 : 0 ≤ (0 : Int32).toInt ∧ (0 : Int32).toInt ≤ R * W := by (have := li_0; omega)
  have p100364 : 0 ≤ (z1).toInt ∧ 0 ≤ (z2).toInt ∧ (z1).toInt + (z2).toInt ≤ 400 := by omega
  obtain ⟨f100365, g100366⟩ := fu_e 50
  have p100367 : R * W - (0 : Int32).toInt < (f100365 : Int) := by (have := li_0; omega)
  refine ⟨f100365, wq_X7_scrolls_L48 p100361 (fun t0_100368 z1_100369 z2_100370 z3_100371 z4_100372 q100373 q100374 q100375 q100376 => ?_) f100365 _ _ _ _ _ q100357 p100362 p100363 p100364 p100367⟩
  have := q100373.1
  have := q100373.2.1
  refine wq_X7_rows q100373 (fun r_24 q100377 => ?_)
  have p100378 : 0 < D := by omega
  have e100379 := tq_subr li_1 r_24
  try rw [Int.emod_eq_of_lt (show 0 ≤ (r_24).toInt - 1 + 2147483648 by omega) (show (r_24).toInt - 1 + 2147483648 < 4294967296 by omega)] at e100379
  have p100380 : 0 ≤ (r_24 - 1).toInt ∧ (r_24 - 1).toInt < R := by omega
  have p100381 : 0 ≤ (z1_100369).toInt ∧ 0 ≤ (z2_100370).toInt ∧ (z1_100369).toInt + (z2_100370).toInt ≤ 400 := by omega
  refine wq_X7_wantsSigns q100373 p100378 p100380 p100381 (fun r_26 u_27 q100382 q100383 => ?_)
  have := q100382.1
  have := q100382.2.1
  have p100384 : ie [] u_27.1 s0.1 := (ie_tr q100383 (by decide) (ie_tr q100374 (by decide) (ie_tr q100358 (by decide) (ie_refl _ _))))
  exact k _ _ q100382 p100384
theorem wq_X7_areSigns_L2 {s0 : Md} {post : Int32 → Prop} {e29 : Int32 → Int32 → Int32 → Prop} (ke29 : ∀ (z1 : Int32) (z2 : Int32) (z3 : Int32), e29 z1 z2 z3) (k : ∀ (r : Int32), (r).toInt = 0 ∨ (r).toInt = 1 → post r) : ∀ (n : Nat) (z1 : Int32) (z2 : Int32) (z3 : Int32), 0 ≤ (z3).toInt ∧ (z3).toInt ≤ (z2).toInt → 0 ≤ (z1).toInt ∧ 0 ≤ (z2).toInt ∧ (z1).toInt + (z2).toInt ≤ 400 → (z2).toInt - (z3).toInt < (n : Int) → wp_X7_areSigns_L2 s0 post e29 n z1 z2 z3 := by
  intro n
  induction n with
  | zero =>
    intro z1 z2 z3 i100385 i100386 i100387
    exfalso
    omega
  | succ n ih =>
    intro z1 z2 z3 i100385 i100386 i100387
    unfold wp_X7_areSigns_L2
    refine ⟨fun c100388 => ?_, fun c100389 => ?_⟩
    · replace c100388 := q_le c100388
      exact ke29 _ _ _
    · replace c100389 := q_nle c100389
      have e100390 := tq_add z1 z3
      try rw [Int.emod_eq_of_lt (show 0 ≤ (z1).toInt + (z3).toInt + 2147483648 by omega) (show (z1).toInt + (z3).toInt + 2147483648 < 4294967296 by omega)] at e100390
      have v100391 : vp_in (z1 + z3) 400 := vi (by omega) (by omega)
      refine ⟨v100391, ?_⟩
      refine wq_X7_isSign (fun r_3 q100392 => ?_)
      refine ⟨fun c100393 => ?_, fun c100394 => ?_⟩
      · replace c100393 := q_neq c100393
        rw [li_0] at c100393
        have e100395 := tq_addr li_1 z3
        try rw [Int.emod_eq_of_lt (show 0 ≤ (z3).toInt + 1 + 2147483648 by omega) (show (z3).toInt + 1 + 2147483648 < 4294967296 by omega)] at e100395
        have p100396 : 0 ≤ (z3 + 1).toInt ∧ (z3 + 1).toInt ≤ (z2).toInt := by omega
        have p100397 : 0 ≤ (z1).toInt ∧ 0 ≤ (z2).toInt ∧ (z1).toInt + (z2).toInt ≤ 400 := by omega
        have p100398 : (z2).toInt - (z3 + 1).toInt < ((n : Nat) : Int) := by (omega)
        exact ih _ _ _ p100396 p100397 p100398
      · replace c100394 := q_eq c100394
        rw [li_0] at c100394
        have p100399 : (0 : Int32).toInt = 0 ∨ (0 : Int32).toInt = 1 := by (have := li_0; omega)
        exact k _ p100399
theorem wq_X7_areSigns {post : Int32 → Prop} {s0 : Md} {x1 : Int32} {x2 : Int32} (h100400 : 0 ≤ (x1).toInt ∧ 0 ≤ (x2).toInt ∧ (x1).toInt + (x2).toInt ≤ 400) (k : ∀ (r : Int32), (r).toInt = 0 ∨ (r).toInt = 1 → post r) : wp_X7_areSigns post s0 x1 x2 := by
  unfold wp_X7_areSigns
  have p100401 : 0 ≤ (0 : Int32).toInt ∧ (0 : Int32).toInt ≤ (x2).toInt := by (have := li_0; omega)
  have p100402 : 0 ≤ (x1).toInt ∧ 0 ≤ (x2).toInt ∧ (x1).toInt + (x2).toInt ≤ 400 := by omega
  obtain ⟨f100403, g100404⟩ := fu_e 500
  have p100405 : (x2).toInt - (0 : Int32).toInt < (f100403 : Int) := by (have := li_0; omega)
  refine ⟨f100403, wq_X7_areSigns_L2 (fun z1 z2 z3 => ?_) k f100403 _ _ _ p100401 p100402 p100405⟩
  have p100406 : (1 : Int32).toInt = 0 ∨ (1 : Int32).toInt = 1 := by (have := li_1; omega)
  exact k _ p100406
