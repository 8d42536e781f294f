theorem wq_X4_readFrom {post : Pg → Tp → Prop} {s0 : Pg} {s1 : Tp} {s2 : Bd} {N R W : Int} (h3120 : pz s0) (h3121 : tz (N) s1) (h3122 : bi (R) (W) s2) (k : ∀ (ua : Pg) (ub : Tp), pg (R) ua → tk (N) ub → post ua ub) : wp_X4_readFrom post s0 s1 s2 := by
  unfold wp_X4_readFrom
  have := h3120.1
  have := h3121.1
  have := h3121.2
  have := h3122.1
  have := h3122.2.1
  have := h3122.2.2.1
  have := h3122.2.2.2.1
  have := h3122.2.2.2.2.2.2.2.2.2
  refine wq_X5_startReading h3121 (fun u_2 q3123 q3124 => ?_)
  have := q3123.1
  have := q3123.2.1
  have p3125 : 0 ≤ (0 : Int32).toInt ∧ (0 : Int32).toInt ≤ 3 ∧ 0 ≤ (0 : Int32).toInt ∧ (0 : Int32).toInt ≤ 80 := by (have := li_0; omega)
  have p3126 : ar 80 (0) (99) (s0.2 1) := h3120.2
  have B3127 : pg (R) ((va_up (va_up s0.1 0 0) 1 0), s0.2) := ⟨p3125, p3126, (fun k hk => absurd (show (k : Int) < 0 from hk) (by omega))⟩
  have p3128 : (u_2.1 0).toInt = N := by omega
  have p3129 : 0 ≤ (u_2.1 1).toInt ∧ (u_2.1 1).toInt ≤ N + 1 ∧ 0 ≤ (u_2.1 2).toInt ∧ (u_2.1 2).toInt ≤ (u_2.1 1).toInt ∧ ((u_2.1 5).toInt ≠ 0 ∨ (u_2.1 1).toInt ≤ N) ∧ 0 ≤ (u_2.1 5).toInt ∧ (u_2.1 5).toInt ≤ 5000 := by omega
  have p3130 : 0 ≤ N ∧ N ≤ 400 := by omega
  have B3131 : tk (N) u_2 := ⟨p3128, p3129, p3130⟩
  have p3132 : 0 ≤ (0 : Int32).toInt ∧ (0 : Int32).toInt ≤ 80 := by (have := li_0; omega)
  have p3133 : (1 : Int32).toInt = 0 ∨ (u_2.1 1).toInt ≤ N := by (have := li_1; omega)
  obtain ⟨f3134, g3135⟩ := fu_e 100
  have p3136 : 80 - (0 : Int32).toInt < (f3134 : Int) := by (have := li_0; omega)
  refine ⟨f3134, wq_X4_readFrom_L19 h3122 (fun t0 t1 z3 z4 q3137 q3138 q3139 q3140 => ?_) f3134 _ _ _ _ B3127 B3131 p3132 p3133 p3136⟩
  have := q3137.1
  have := q3138.1
  have := q3138.2.1
  exact k _ _ q3137 q3138
theorem wq_X5_addNumber_L3 {post : Tp → Prop} {e49 : Tp → Int32 → Int32 → Prop} {N : Int} (ke49 : ∀ (t0 : Tp) (z1 : Int32) (z2 : Int32), 8 * (t0.1 0).toInt + (z2).toInt = 8 * N + 24 → -8 ≤ (z2).toInt ∧ (z2).toInt < 0 → e49 t0 z1 z2) : ∀ (n : Nat) (t0 : Tp) (z1 : Int32) (z2 : Int32), 8 * (t0.1 0).toInt + (z2).toInt = 8 * N + 24 → -8 ≤ (z2).toInt ∧ (z2).toInt ≤ 24 → 0 ≤ N ∧ N + 4 ≤ 400 → (z2).toInt + 8 < (n : Int) → wp_X5_addNumber_L3 post e49 n t0 z1 z2 := by
  intro n
  induction n with
  | zero =>
    intro t0 z1 z2 i3141 i3142 i3143 i3144
    exfalso
    omega
  | succ n ih =>
    intro t0 z1 z2 i3141 i3142 i3143 i3144
    unfold wp_X5_addNumber_L3
    refine ⟨fun c3145 => ?_, fun c3146 => ?_⟩
    · replace c3145 := q_lt c3145
      rw [li_0] at c3145
      have p3147 : 8 * (t0.1 0).toInt + (z2).toInt = 8 * N + 24 := by omega
      have p3148 : -8 ≤ (z2).toInt ∧ (z2).toInt < 0 := by omega
      exact ke49 _ _ _ p3147 p3148
    · replace c3146 := q_nlt c3146
      rw [li_0] at c3146
      refine ⟨fun c3149 => ?_, fun c3150 => ?_⟩
      · replace c3149 := q_le c3149
        rw [li_400] at c3149
        generalize hy3152 : (z2 + (-8)) = y3151
        have e3153 := tq_addr li_m8 z2
        rw [hy3152] at e3153
        try rw [Int.emod_eq_of_lt (show 0 ≤ (z2).toInt + (-8) + 2147483648 by omega) (show (z2).toInt + (-8) + 2147483648 < 4294967296 by omega)] at e3153
        have p3154 : 8 * (t0.1 0).toInt + (y3151).toInt = 8 * N + 24 := by omega
        have p3155 : -8 ≤ (y3151).toInt ∧ (y3151).toInt ≤ 24 := by omega
        have p3156 : 0 ≤ N ∧ N + 4 ≤ 400 := by omega
        have p3157 : (y3151).toInt + 8 < ((n : Nat) : Int) := by (omega)
        exact ih _ _ _ p3154 p3155 p3156 p3157
      · replace c3150 := q_nle c3150
        rw [li_400] at c3150
        have v3158 : vp_in (t0.1 0) 400 := vi (by omega) (by omega)
        refine ⟨v3158, ?_⟩
        generalize hy3160 : (z2 + (-8)) = y3159
        have e3161 := tq_addr li_m8 z2
        rw [hy3160] at e3161
        try rw [Int.emod_eq_of_lt (show 0 ≤ (z2).toInt + (-8) + 2147483648 by omega) (show (z2).toInt + (-8) + 2147483648 < 4294967296 by omega)] at e3161
        have e3162 := tq_addr li_1 (t0.1 0)
        try rw [Int.emod_eq_of_lt (show 0 ≤ (t0.1 0).toInt + 1 + 2147483648 by omega) (show (t0.1 0).toInt + 1 + 2147483648 < 4294967296 by omega)] at e3162
        have p3163 : 8 * ((t0.1 0) + 1).toInt + (y3159).toInt = 8 * N + 24 := by omega
        have p3164 : -8 ≤ (y3159).toInt ∧ (y3159).toInt ≤ 24 := by omega
        have p3165 : 0 ≤ N ∧ N + 4 ≤ 400 := by omega
        have p3166 : (y3159).toInt + 8 < ((n : Nat) : Int) := by (omega)
        exact ih _ _ _ p3163 p3164 p3165 p3166
theorem wq_X5_addNumber {post : Tp → Prop} {s0 : Tp} {x1 : Int32} {N : Int} (h3167 : tz (N) s0) (h3168 : N + 4 ≤ 400) (k : ∀ (u : Tp), tz (N + 4) u → post u) : wp_X5_addNumber post s0 x1 := by
  unfold wp_X5_addNumber
  have := h3167.1
  have := h3167.2
  have p3169 : 8 * (s0.1 0).toInt + (24 : Int32).toInt = 8 * ((s0.1 0).toInt) + 24 := by (have := li_24; omega)
  have p3170 : -8 ≤ (24 : Int32).toInt ∧ (24 : Int32).toInt ≤ 24 := by (have := li_24; omega)
  have p3171 : 0 ≤ ((s0.1 0).toInt) ∧ ((s0.1 0).toInt) + 4 ≤ 400 := by omega
  obtain ⟨f3172, g3173⟩ := fu_e 50
  have p3174 : (24 : Int32).toInt + 8 < (f3172 : Int) := by (have := li_24; omega)
  refine ⟨f3172, wq_X5_addNumber_L3 (fun t0 z1 z2 q3175 q3176 => ?_) f3172 _ _ _ p3169 p3170 p3171 p3174⟩
  have p3177 : (t0.1 0).toInt = N + 4 := by omega
  have p3178 : 0 ≤ N + 4 ∧ N + 4 ≤ 400 := by omega
  have B3179 : tz (N + 4) t0 := ⟨p3177, p3178⟩
  exact k _ B3179
theorem wq_X6_feed {post : Int32 → Tp → Prop} {s1 : Tp} {x1 : Int32} {x2 : Int32} {x3 : Int32} {x4 : Int32} {x5 : Int32} {N : Int} (h3180 : tz (N) s1) (k : ∀ (r : Int32) (u : Tp) (M : Int), tz (M) u → ((r).toInt = M ∧ M = N + 20 ∧ N + 20 ≤ 400) ∨ ((r).toInt = -1 ∧ M = N ∧ 400 < N + 20) → post r u) : wp_X6_feed post s1 x1 x2 x3 x4 x5 := by
  unfold wp_X6_feed
  have := h3180.1
  have := h3180.2
  refine ⟨fun c3181 => ?_, fun c3182 => ?_⟩
  · replace c3181 := q_le c3181
    rw [li_400] at c3181
    have e3183 := tq_addr li_20 (s1.1 0)
    try rw [Int.emod_eq_of_lt (show 0 ≤ (s1.1 0).toInt + 20 + 2147483648 by omega) (show (s1.1 0).toInt + 20 + 2147483648 < 4294967296 by omega)] at e3183
    have p3184 : N + 4 ≤ 400 := by omega
    refine wq_X5_addNumber h3180 p3184 (fun u_3 q3185 => ?_)
    have := q3185.1
    have := q3185.2
    have p3186 : N + 4 + 4 ≤ 400 := by omega
    refine wq_X5_addNumber q3185 p3186 (fun u_5 q3187 => ?_)
    have := q3187.1
    have := q3187.2
    have p3188 : N + 4 + 4 + 4 ≤ 400 := by omega
    refine wq_X5_addNumber q3187 p3188 (fun u_7 q3189 => ?_)
    have := q3189.1
    have := q3189.2
    have p3190 : N + 4 + 4 + 4 + 4 ≤ 400 := by omega
    refine wq_X5_addNumber q3189 p3190 (fun u_9 q3191 => ?_)
    have := q3191.1
    have := q3191.2
    have p3192 : N + 4 + 4 + 4 + 4 + 4 ≤ 400 := by omega
    refine wq_X5_addNumber q3191 p3192 (fun u_11 q3193 => ?_)
    have := q3193.1
    have := q3193.2
    have p3194 : ((u_11.1 0).toInt = N + 4 + 4 + 4 + 4 + 4 ∧ N + 4 + 4 + 4 + 4 + 4 = N + 20 ∧ N + 20 ≤ 400) ∨ ((u_11.1 0).toInt = -1 ∧ N + 4 + 4 + 4 + 4 + 4 = N ∧ 400 < N + 20) := by omega
    exact k _ _ (N + 4 + 4 + 4 + 4 + 4) q3193 p3194
  · replace c3182 := q_nle c3182
    rw [li_400] at c3182
    have e3195 := tq_addr li_20 (s1.1 0)
    try rw [Int.emod_eq_of_lt (show 0 ≤ (s1.1 0).toInt + 20 + 2147483648 by omega) (show (s1.1 0).toInt + 20 + 2147483648 < 4294967296 by omega)] at e3195
    have p3196 : ((-1 : Int32).toInt = N ∧ N = N + 20 ∧ N + 20 ≤ 400) ∨ ((-1 : Int32).toInt = -1 ∧ N = N ∧ 400 < N + 20) := by (have := li_m1; omega)
    exact k _ _ (N) h3180 p3196
theorem wq_X6_end {post : Int32 → Tp → Prop} {s1 : Tp} {x1 : Int32} {N : Int} (h3197 : tz (N) s1) (k : ∀ (r : Int32) (u : Tp) (M : Int), tz (M) u → ((r).toInt = (x1).toInt ∧ M = (x1).toInt ∧ 0 ≤ (x1).toInt ∧ (x1).toInt ≤ N) ∨ ((r).toInt = -1 ∧ M = N ∧ ((x1).toInt < 0 ∨ N < (x1).toInt)) → post r u) : wp_X6_end post s1 x1 := by
  unfold wp_X6_end
  have := h3197.1
  have := h3197.2
  refine ⟨fun c3198 => ?_, fun c3199 => ?_⟩
  · replace c3198 := q_lt c3198
    rw [li_0] at c3198
    have p3200 : ((-1 : Int32).toInt = (x1).toInt ∧ N = (x1).toInt ∧ 0 ≤ (x1).toInt ∧ (x1).toInt ≤ N) ∨ ((-1 : Int32).toInt = -1 ∧ N = N ∧ ((x1).toInt < 0 ∨ N < (x1).toInt)) := by (have := li_m1; omega)
    exact k _ _ (N) h3197 p3200
  · replace c3199 := q_nlt c3199
    rw [li_0] at c3199
    refine ⟨fun c3201 => ?_, fun c3202 => ?_⟩
    · replace c3201 := q_le c3201
      have p3203 : (x1).toInt = (x1).toInt := by omega
      have p3204 : 0 ≤ (x1).toInt ∧ (x1).toInt ≤ 400 := by omega
      have B3205 : tz ((x1).toInt) ((va_up s1.1 0 x1), s1.2) := ⟨p3203, p3204⟩
      have p3206 : ((x1).toInt = (x1).toInt ∧ (x1).toInt = (x1).toInt ∧ 0 ≤ (x1).toInt ∧ (x1).toInt ≤ N) ∨ ((x1).toInt = -1 ∧ (x1).toInt = N ∧ ((x1).toInt < 0 ∨ N < (x1).toInt)) := by omega
      exact k _ _ ((x1).toInt) B3205 p3206
    · replace c3202 := q_nle c3202
      have p3207 : ((-1 : Int32).toInt = (x1).toInt ∧ N = (x1).toInt ∧ 0 ≤ (x1).toInt ∧ (x1).toInt ≤ N) ∨ ((-1 : Int32).toInt = -1 ∧ N = N ∧ ((x1).toInt < 0 ∨ N < (x1).toInt)) := by (have := li_m1; omega)
      exact k _ _ (N) h3197 p3207
theorem wq_X6_isRowText_L15 {s1 : Tp} {s2 : Bd} {post : Int32 → Prop} {e44 : Int32 → Int32 → Int32 → Prop} {N : Int} (h3208 : tz (N) s1) (ke44 : ∀ (z1 : Int32) (z2 : Int32) (z3 : Int32), e44 z1 z2 z3) (k : ∀ (r : Int32), (r).toInt = 0 ∨ (r).toInt = 1 → post r) : ∀ (n : Nat) (z1 : Int32) (z2 : Int32) (z3 : Int32), 0 ≤ (z3).toInt ∧ ((z3).toInt ≤ (z2).toInt ∨ (z3).toInt = 0) ∧ (z2).toInt ≤ 10 → 10 - (z3).toInt < (n : Int) → wp_X6_isRowText_L15 s1 s2 post e44 n z1 z2 z3 := by
  have := h3208.1
  have := h3208.2
  intro n
  induction n with
  | zero =>
    intro z1 z2 z3 i3209 i3210
    exfalso
    omega
  | succ n ih =>
    intro z1 z2 z3 i3209 i3210
    unfold wp_X6_isRowText_L15
    refine ⟨fun c3211 => ?_, fun c3212 => ?_⟩
    · replace c3211 := q_le c3211
      exact ke44 _ _ _
    · replace c3212 := q_nle c3212
      refine wq_X5_byteAt h3208 (fun r_3 => ?_)
      refine wq_X6_isSign (fun r_5 q3213 => ?_)
      refine ⟨fun c3214 => ?_, fun c3215 => ?_⟩
      · replace c3214 := q_neq c3214
        rw [li_0] at c3214
        have e3216 := tq_addr li_1 z3
        try rw [Int.emod_eq_of_lt (show 0 ≤ (z3).toInt + 1 + 2147483648 by omega) (show (z3).toInt + 1 + 2147483648 < 4294967296 by omega)] at e3216
        have p3217 : 0 ≤ (z3 + 1).toInt ∧ ((z3 + 1).toInt ≤ (z2).toInt ∨ (z3 + 1).toInt = 0) ∧ (z2).toInt ≤ 10 := by omega
        have p3218 : 10 - (z3 + 1).toInt < ((n : Nat) : Int) := by (omega)
        exact ih _ _ _ p3217 p3218
      · replace c3215 := q_eq c3215
        rw [li_0] at c3215
        have p3219 : (0 : Int32).toInt = 0 ∨ (0 : Int32).toInt = 1 := by (have := li_0; omega)
        exact k _ p3219
theorem wq_X6_isRowText {post : Int32 → Prop} {s1 : Tp} {s2 : Bd} {x1 : Int32} {x2 : Int32} {N R W : Int} (h3220 : tz (N) s1) (h3221 : bi (R) (W) s2) (k : ∀ (r : Int32), (r).toInt = 0 ∨ (r).toInt = 1 → post r) : wp_X6_isRowText post s1 s2 x1 x2 := by
  unfold wp_X6_isRowText
  have := h3220.1
  have := h3220.2
  have := h3221.1
  have := h3221.2.1
  have := h3221.2.2.1
  have := h3221.2.2.2.1
  have := h3221.2.2.2.2.2.2.2.2.2
  refine ⟨fun c3222 => ?_, fun c3223 => ?_⟩
  · replace c3222 := q_le c3222
    have p3224 : 0 ≤ (0 : Int32).toInt ∧ ((0 : Int32).toInt ≤ (x2).toInt ∨ (0 : Int32).toInt = 0) ∧ (x2).toInt ≤ 10 := by (have := li_0; omega)
    obtain ⟨f3225, g3226⟩ := fu_e 50
    have p3227 : 10 - (0 : Int32).toInt < (f3225 : Int) := by (have := li_0; omega)
    refine ⟨f3225, wq_X6_isRowText_L15 h3220 (fun z1 z2 z3 => ?_) k f3225 _ _ _ p3224 p3227⟩
    have p3228 : (1 : Int32).toInt = 0 ∨ (1 : Int32).toInt = 1 := by (have := li_1; omega)
    exact k _ p3228
  · replace c3223 := q_nle c3223
    have p3229 : (0 : Int32).toInt = 0 ∨ (0 : Int32).toInt = 1 := by (have := li_0; omega)
    exact k _ p3229
theorem wq_X6_whyNotRow {post : Int32 → Prop} {s1 : Tp} {s2 : Bd} {x1 : Int32} {N R W : Int} (h3230 : tz (N) s1) (h3231 : bi (R) (W) s2) (k : ∀ (r : Int32), ((r).toInt = 0 ∧ 0 ≤ (x1).toInt ∧ (x1).toInt < R) ∨ (r).toInt = -1 ∨ (r).toInt = -2 → post r) : wp_X6_whyNotRow post s1 s2 x1 := by
  unfold wp_X6_whyNotRow
  have := h3230.1
  have := h3230.2
  have := h3231.1
  have := h3231.2.1
  have := h3231.2.2.1
  have := h3231.2.2.2.1
  have := h3231.2.2.2.2.2.2.2.2.2
  refine wq_X0_hasRow h3231 (fun r_1 q3232 => ?_)
  refine ⟨fun c3233 => ?_, fun c3234 => ?_⟩
  · replace c3233 := q_neq c3233
    rw [li_0] at c3233
    refine wq_X6_isRowText h3230 h3231 (fun r_4 q3235 => ?_)
    refine ⟨fun c3236 => ?_, fun c3237 => ?_⟩
    · replace c3236 := q_eq c3236
      rw [li_0] at c3236
      have p3238 : ((-2 : Int32).toInt = 0 ∧ 0 ≤ (x1).toInt ∧ (x1).toInt < R) ∨ (-2 : Int32).toInt = -1 ∨ (-2 : Int32).toInt = -2 := by (have := li_m2; omega)
      exact k _ p3238
    · replace c3237 := q_neq c3237
      rw [li_0] at c3237
      have p3239 : ((0 : Int32).toInt = 0 ∧ 0 ≤ (x1).toInt ∧ (x1).toInt < R) ∨ (0 : Int32).toInt = -1 ∨ (0 : Int32).toInt = -2 := by (have := li_0; omega)
      exact k _ p3239
  · replace c3234 := q_eq c3234
    rw [li_0] at c3234
    have p3240 : ((-1 : Int32).toInt = 0 ∧ 0 ≤ (x1).toInt ∧ (x1).toInt < R) ∨ (-1 : Int32).toInt = -1 ∨ (-1 : Int32).toInt = -2 := by (have := li_m1; omega)
    exact k _ p3240
theorem wq_X6_whyNotProgram {post : Int32 → Tp → Pg → Prop} {s1 : Tp} {s2 : Bd} {s5 : Pg} {N R W : Int} (h1 : tz N s1) (h2 : bi R W s2) (h5 : pz s5) (k : ∀ (r : Int32) (ua : Tp) (ub : Pg), tz N ua → pz ub → (r.toInt ≠ 0 ∨ (pg R ub ∧ 1 ≤ R)) → post r ua ub) : wp_X6_whyNotProgram post s1 s2 s5 := by
  unfold wp_X6_whyNotProgram
  have e0 : (0 : Int32).toInt = 0 := rfl
  have m1 : (-1 : Int32).toInt = -1 := rfl
  have m2 : (-2 : Int32).toInt = -2 := rfl
  refine wq_X0_isThere h2 (fun r hr => ⟨fun c => ?_, fun c => ?_⟩)
  · have := q_neq c
    refine wq_X4_readFrom h5 h1 h2 (fun ua ub ha hb => ?_)
    have b1 := hb.2.1
    have pzu : pz ua := ⟨ha.1, ha.2.1⟩
    have tzu : tz N ub := ⟨hb.1, hb.2.2⟩
    refine wq_X5_isSound (fun q hq => ⟨fun g => ?_, fun g => ?_⟩)
    · have g2 := q_eq g
      have s2 := tq_sub (-2) (ub.1 5)
      exact k _ _ _ tzu pzu (Or.inl (by omega))
    · exact k _ _ _ tzu pzu (Or.inr ⟨ha, by omega⟩)
  · exact k _ _ _ h1 h5 (Or.inl (by omega))
theorem wq_X6_doStep {post : Bd → Mo → Prop} {s1 : Tp} {s2 : Bd} {s4 : Mo} {s5 : Pg} {x1 : Int32} {N R W : Int} (h3241 : tz (N) s1) (h3242 : bi (R) (W) s2) (h3243 : mo s4) (h3244 : pg (R) s5) (h3245 : 1 ≤ R) (k : ∀ (ua : Bd) (ub : Mo), bi (R) (W) ua → mo ub → post ua ub) : wp_X6_doStep post s1 s2 s4 s5 x1 := by
  unfold wp_X6_doStep
  have := h3241.1
  have := h3241.2
  have := h3242.1
  have := h3242.2.1
  have := h3242.2.2.1
  have := h3242.2.2.2.1
  have := h3242.2.2.2.2.2.2.2.2.2
  have := h3243.1
  have := h3244.1
  refine wq_X4_oneOf h3244 (fun r_1 q3246 q3247 => ?_)
  refine wq_X4_twoOf h3244 (fun r_3 => ?_)
  refine wq_X4_kindOf h3244 (fun r_5 q3248 => ?_)
  refine ⟨fun c3249 => ?_, fun c3250 => ?_⟩
  · replace c3249 := q_eq c3249
    rw [li_6] at c3249
    refine wq_X4_quotedOf h3244 (fun r_8 => ?_)
    have p3251 : 0 ≤ (r_1).toInt ∧ (r_1).toInt < R := by omega
    refine wq_X0_wantSigns h3242 h3241 p3251 (fun r_10 u_11 q3252 => ?_)
    have := q3252.1
    have := q3252.2.1
    have := q3252.2.2.1
    have := q3252.2.2.2.2.2.2.2.2.2
    exact k _ _ q3252 h3243
  · replace c3250 := q_neq c3250
    rw [li_6] at c3250
    refine ⟨fun c3253 => ?_, fun c3254 => ?_⟩
    · replace c3253 := q_eq c3253
      rw [li_7] at c3253
      refine wq_X0_setLost h3242 (fun u_14 q3255 => ?_)
      have := q3255.1
      have := q3255.2.1
      have := q3255.2.2.1
      have := q3255.2.2.2.2.2.2.2.2.2
      exact k _ _ q3255 h3243
    · replace c3254 := q_neq c3254
      rw [li_7] at c3254
      refine ⟨fun c3256 => ?_, fun c3257 => ?_⟩
      · replace c3256 := q_eq c3256
        rw [li_8] at c3256
        refine wq_X4_quotedOf h3244 (fun r_16 => ?_)
        have p3258 : 1 ≤ R := by omega
        refine wq_X0_scrollUp h3242 h3241 p3258 (fun r_18 u_19 q3259 => ?_)
        have := q3259.1
        have := q3259.2.1
        have := q3259.2.2.1
        have := q3259.2.2.2.2.2.2.2.2.2
        exact k _ _ q3259 h3243
      · replace c3257 := q_neq c3257
        rw [li_8] at c3257
        refine ⟨fun c3260 => ?_, fun c3261 => ?_⟩
        · replace c3260 := q_eq c3260
          rw [li_9] at c3260
          have p3262 : 0 ≤ (r_1).toInt ∧ (r_1).toInt < R := by omega
          refine wq_X0_wantHome h3242 p3262 (fun u_22 q3263 => ?_)
          have := q3263.1
          have := q3263.2.1
          have := q3263.2.2.1
          have := q3263.2.2.2.2.2.2.2.2.2
          exact k _ _ q3263 h3243
        · replace c3261 := q_neq c3261
          rw [li_9] at c3261
          refine ⟨fun c3264 => ?_, fun c3265 => ?_⟩
          · replace c3264 := q_eq c3264
            rw [li_10] at c3264
            have p3266 : 0 ≤ (r_1).toInt ∧ (r_1).toInt ≤ 9999 := by omega
            refine wq_X2_turn h3243 h3242 p3266 (fun u_25a u_25b q3267 q3268 => ?_)
            have := q3267.1
            have := q3268.1
            have := q3268.2.1
            have := q3268.2.2.1
            have := q3268.2.2.2.2.2.2.2.2.2
            exact k _ _ q3268 q3267
          · replace c3265 := q_neq c3265
            rw [li_10] at c3265
            refine ⟨fun c3269 => ?_, fun c3270 => ?_⟩
            · replace c3269 := q_eq c3269
              rw [li_11] at c3269
              have p3271 : 0 ≤ ((9999 : Int32)).toInt ∧ ((9999 : Int32)).toInt ≤ 9999 := by (have := li_9999; omega)
              refine wq_X2_turn h3243 h3242 p3271 (fun u_28a u_28b q3272 q3273 => ?_)
              have := q3272.1
              have := q3273.1
              have := q3273.2.1
              have := q3273.2.2.1
              have := q3273.2.2.2.2.2.2.2.2.2
              exact k _ _ q3273 q3272
            · replace c3270 := q_neq c3270
              rw [li_11] at c3270
              exact k _ _ h3242 h3243
