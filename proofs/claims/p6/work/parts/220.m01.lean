theorem wq_X0_entryStart_L4 {s0 : Bd} {post : Int32 → Prop} {e39 : Int32 → Int32 → Int32 → Prop} {R W : Int} (h160 : bi (R) (W) s0) (ke39 : ∀ (z1 : Int32) (z2 : Int32) (z3 : Int32), 0 ≤ (z3).toInt ∧ (z3).toInt ≤ 4 → 0 ≤ (z2).toInt ∧ (z2).toInt ≤ 1600 * (z3).toInt → e39 z1 z2 z3) : ∀ (n : Nat) (z1 : Int32) (z2 : Int32) (z3 : Int32), 0 ≤ (z3).toInt ∧ (z3).toInt ≤ 4 → 0 ≤ (z2).toInt ∧ (z2).toInt ≤ 1600 * (z3).toInt → 4 - (z3).toInt < (n : Int) → wp_X0_entryStart_L4 s0 post e39 n z1 z2 z3 := by
  have := h160.1
  have := h160.2.1
  have := h160.2.2.1
  have := h160.2.2.2.1
  have := h160.2.2.2.2.2.2.2.2.2
  intro n
  induction n with
  | zero =>
    intro z1 z2 z3 i161 i162 i163
    exfalso
    omega
  | succ n ih =>
    intro z1 z2 z3 i161 i162 i163
    unfold wp_X0_entryStart_L4
    refine ⟨fun c164 => ?_, fun c165 => ?_⟩
    · replace c164 := q_le c164
      have p166 : 0 ≤ (z3).toInt ∧ (z3).toInt ≤ 4 := by omega
      have p167 : 0 ≤ (z2).toInt ∧ (z2).toInt ≤ 1600 * (z3).toInt := by omega
      exact ke39 _ _ _ p166 p167
    · replace c165 := q_nle c165
      refine ⟨fun c168 => ?_, fun c169 => ?_⟩
      · replace c168 := q_le c168
        have p170 : 0 ≤ (z3).toInt ∧ (z3).toInt ≤ 4 := by omega
        have p171 : 0 ≤ (z2).toInt ∧ (z2).toInt ≤ 1600 * (z3).toInt := by omega
        exact ke39 _ _ _ p170 p171
      · replace c169 := q_nle c169
        have v172 : vp_in z3 4 := vi (by omega) (by omega)
        refine ⟨v172, ?_⟩
        refine ⟨v172, ?_⟩
        have e173 := tq_addr li_1 z3
        try rw [Int.emod_eq_of_lt (show 0 ≤ (z3).toInt + 1 + 2147483648 by omega) (show (z3).toInt + 1 + 2147483648 < 4294967296 by omega)] at e173
        have p174 : 0 ≤ (z3 + 1).toInt ∧ (z3 + 1).toInt ≤ 4 := by omega
        have := ar_at (h160.2.2.2.2.1) v172
        have := sq_b (a := (s0.2.1 1 (Int32.toNatClampNeg z3))) (by omega) (by omega)
        have e175 := tq_add z2 ((s0.2.1 1 (Int32.toNatClampNeg z3)) * (s0.2.1 1 (Int32.toNatClampNeg z3)))
        try rw [Int.emod_eq_of_lt (show 0 ≤ (z2).toInt + ((s0.2.1 1 (Int32.toNatClampNeg z3)) * (s0.2.1 1 (Int32.toNatClampNeg z3))).toInt + 2147483648 by omega) (show (z2).toInt + ((s0.2.1 1 (Int32.toNatClampNeg z3)) * (s0.2.1 1 (Int32.toNatClampNeg z3))).toInt + 2147483648 < 4294967296 by omega)] at e175
        have p176 : 0 ≤ (z2 + ((s0.2.1 1 (Int32.toNatClampNeg z3)) * (s0.2.1 1 (Int32.toNatClampNeg z3)))).toInt ∧ (z2 + ((s0.2.1 1 (Int32.toNatClampNeg z3)) * (s0.2.1 1 (Int32.toNatClampNeg z3)))).toInt ≤ 1600 * (z3 + 1).toInt := by omega
        have p177 : 4 - (z3 + 1).toInt < ((n : Nat) : Int) := by (omega)
        exact ih _ _ _ p174 p176 p177
theorem wq_X0_entryStart {post : Int32 → Prop} {s0 : Bd} {x1 : Int32} {R W : Int} (h178 : bi (R) (W) s0) (k : ∀ (r : Int32), 0 ≤ (r).toInt ∧ (r).toInt ≤ 6400 → post r) : wp_X0_entryStart post s0 x1 := by
  unfold wp_X0_entryStart
  have := h178.1
  have := h178.2.1
  have := h178.2.2.1
  have := h178.2.2.2.1
  have := h178.2.2.2.2.2.2.2.2.2
  have p179 : 0 ≤ (0 : Int32).toInt ∧ (0 : Int32).toInt ≤ 4 := by (have := li_0; omega)
  have p180 : 0 ≤ (0 : Int32).toInt ∧ (0 : Int32).toInt ≤ 1600 * (0 : Int32).toInt := by (have := li_0; omega)
  obtain ⟨f181, g182⟩ := fu_e 50
  have p183 : 4 - (0 : Int32).toInt < (f181 : Int) := by (have := li_0; omega)
  refine ⟨f181, wq_X0_entryStart_L4 h178 (fun z1 z2 z3 q184 q185 => ?_) f181 _ _ _ p179 p180 p183⟩
  have p186 : 0 ≤ (z2).toInt ∧ (z2).toInt ≤ 6400 := by omega
  exact k _ p186
theorem wq_X0_entryCount {post : Int32 → Prop} {s0 : Bd} {R W : Int} (h187 : bi (R) (W) s0) (k : ∀ (r : Int32), 0 ≤ (r).toInt ∧ (r).toInt ≤ 6400 → post r) : wp_X0_entryCount post s0 := by
  unfold wp_X0_entryCount
  have := h187.1
  have := h187.2.1
  have := h187.2.2.1
  have := h187.2.2.2.1
  have := h187.2.2.2.2.2.2.2.2.2
  refine wq_X0_entryStart h187 (fun r_1 q188 => ?_)
  have p189 : 0 ≤ (r_1).toInt ∧ (r_1).toInt ≤ 6400 := by omega
  exact k _ p189
theorem wq_X0_copyAll {post : Bd → Prop} {s0 : Bd} {s1 : Bd} {R W R2 W2 : Int} (h190 : bi (R) (W) s0) (h191 : bi (R2) (W2) s1) (k : ∀ (u : Bd), bi (R2) (W2) u → post u) : wp_X0_copyAll post s0 s1 := by
  unfold wp_X0_copyAll
  have := h190.1
  have := h190.2.1
  have := h190.2.2.1
  have := h190.2.2.2.1
  have := h190.2.2.2.2.2.2.2.2.2
  have := h191.1
  have := h191.2.1
  have := h191.2.2.1
  have := h191.2.2.2.1
  have := h191.2.2.2.2.2.2.2.2.2
  refine wq_X0_copyAllButLog h190 h191 (fun u_2 q192 q193 => ?_)
  have := q192.1
  have := q192.2.1
  have := q192.2.2.1
  have := q192.2.2.2.2.2.2.2.2.2
  refine wq_X0_entryCount h191 (fun r_3 q194 => ?_)
  refine ⟨fun c195 => ?_, fun c196 => ?_⟩
  · replace c195 := q_le c195
    have := tq_ofn (n := u_2.2.2.2.1) (by omega)
    have := tq_ofn (n := s1.2.2.2.1) (by omega)
    have e197 := tq_ite (a := (Int32.ofNat s1.2.2.2.1)) (b := r_3) (x := (Int32.ofNat s1.2.2.2.1)) (y := r_3)
    refine ⟨(z_nlt (by have := li_0; omega)), ?_⟩
    refine ⟨(tn_0 (by omega)), ?_⟩
    refine ⟨(tn_0 (by omega)), ?_⟩
    have p198 : (u_2.1 0).toInt = R2 := by omega
    have p199 : (u_2.1 1).toInt = W2 := by omega
    have p200 : 0 ≤ (u_2.1 3).toInt ∧ (u_2.1 3).toInt ≤ 4 := by omega
    have p201 : 0 ≤ R2 ∧ R2 ≤ 6 ∧ 0 ≤ W2 ∧ W2 ≤ 10 ∧ 0 ≤ R2 * W2 ∧ R2 * W2 ≤ 40 := by omega
    have p202 : ar 4 (0) (40) (u_2.2.1 1) := q192.2.2.2.2.1
    have p203 : ar 40 (0) (3) (u_2.2.1 3) := q192.2.2.2.2.2.1
    have p204 : ar 40 (0) (39) (u_2.2.1 4) := q192.2.2.2.2.2.2.1
    have p205 : ar 40 (0) (39) (u_2.2.1 5) := q192.2.2.2.2.2.2.2.1
    have p206 : ar 40 (0) (39) (u_2.2.1 6) := q192.2.2.2.2.2.2.2.2.1
    have p207 : u_2.2.2.2.1 ≤ 6400 := by omega
    have B208 : bi (R2) (W2) (u_2.1, u_2.2.1, u_2.2.2.1, u_2.2.2.2.1, (va_cpy s1.2.2.2.2 u_2.2.2.2.2 (Int32.toNatClampNeg 0) (Int32.toNatClampNeg 0) (Int32.toNatClampNeg (if ((Int32.ofNat s1.2.2.2.1) < r_3) then (Int32.ofNat s1.2.2.2.1) else r_3)))) := ⟨p198, p199, p200, p201, p202, p203, p204, p205, p206, p207⟩
    exact k _ B208
  · replace c196 := q_nle c196
    have := tq_ofn (n := u_2.2.2.2.1) (by omega)
    refine ⟨(z_nlt (by have := li_0; omega)), ?_⟩
    refine ⟨(tn_le (by omega)), ?_⟩
    have := tq_ofn (n := s1.2.2.2.1) (by omega)
    have e209 := tq_ite (a := (Int32.ofNat s1.2.2.2.1)) (b := r_3) (x := (Int32.ofNat s1.2.2.2.1)) (y := r_3)
    refine ⟨(z_nlt (by have := li_0; omega)), ?_⟩
    refine ⟨(tn_0 (by omega)), ?_⟩
    refine ⟨(tn_0n (by omega)), ?_⟩
    have p210 : (u_2.1 0).toInt = R2 := by omega
    have p211 : (u_2.1 1).toInt = W2 := by omega
    have p212 : 0 ≤ (u_2.1 3).toInt ∧ (u_2.1 3).toInt ≤ 4 := by omega
    have p213 : 0 ≤ R2 ∧ R2 ≤ 6 ∧ 0 ≤ W2 ∧ W2 ≤ 10 ∧ 0 ≤ R2 * W2 ∧ R2 * W2 ≤ 40 := by omega
    have p214 : ar 4 (0) (40) (u_2.2.1 1) := q192.2.2.2.2.1
    have p215 : ar 40 (0) (3) (u_2.2.1 3) := q192.2.2.2.2.2.1
    have p216 : ar 40 (0) (39) (u_2.2.1 4) := q192.2.2.2.2.2.2.1
    have p217 : ar 40 (0) (39) (u_2.2.1 5) := q192.2.2.2.2.2.2.2.1
    have p218 : ar 40 (0) (39) (u_2.2.1 6) := q192.2.2.2.2.2.2.2.2.1
    have p219 : (Int32.toNatClampNeg r_3) ≤ 6400 := tn_le (by omega)
    have B220 : bi (R2) (W2) (u_2.1, u_2.2.1, u_2.2.2.1, (Int32.toNatClampNeg r_3), (va_cpy s1.2.2.2.2 (fun _ => 0) (Int32.toNatClampNeg 0) (Int32.toNatClampNeg 0) (Int32.toNatClampNeg (if ((Int32.ofNat s1.2.2.2.1) < r_3) then (Int32.ofNat s1.2.2.2.1) else r_3)))) := ⟨p210, p211, p212, p213, p214, p215, p216, p217, p218, p219⟩
    exact k _ B220
theorem wq_X0_isThere {post : Int32 → Prop} {s0 : Bd} {R W : Int} (h221 : bi (R) (W) s0) (k : ∀ (r : Int32), ((r).toInt = 1 ∧ 0 < R) ∨ ((r).toInt = 0 ∧ R ≤ 0) → post r) : wp_X0_isThere post s0 := by
  unfold wp_X0_isThere
  have := h221.1
  have := h221.2.1
  have := h221.2.2.1
  have := h221.2.2.2.1
  have := h221.2.2.2.2.2.2.2.2.2
  refine ⟨fun c222 => ?_, fun c223 => ?_⟩
  · replace c222 := q_le c222
    rw [li_0] at c222
    have p224 : ((0 : Int32).toInt = 1 ∧ 0 < R) ∨ ((0 : Int32).toInt = 0 ∧ R ≤ 0) := by (have := li_0; omega)
    exact k _ p224
  · replace c223 := q_nle c223
    rw [li_0] at c223
    have p225 : ((1 : Int32).toInt = 1 ∧ 0 < R) ∨ ((1 : Int32).toInt = 0 ∧ R ≤ 0) := by (have := li_1; omega)
    exact k _ p225
theorem wq_X0_hasRow {post : Int32 → Prop} {s0 : Bd} {x1 : Int32} {R W : Int} (h226 : bi (R) (W) s0) (k : ∀ (r : Int32), ((r).toInt = 1 ∧ 0 ≤ (x1).toInt ∧ (x1).toInt < R) ∨ ((r).toInt = 0 ∧ ((x1).toInt < 0 ∨ R ≤ (x1).toInt)) → post r) : wp_X0_hasRow post s0 x1 := by
  unfold wp_X0_hasRow
  have := h226.1
  have := h226.2.1
  have := h226.2.2.1
  have := h226.2.2.2.1
  have := h226.2.2.2.2.2.2.2.2.2
  refine ⟨fun c227 => ?_, fun c228 => ?_⟩
  · replace c227 := q_lt c227
    rw [li_0] at c227
    have p229 : ((0 : Int32).toInt = 1 ∧ 0 ≤ (x1).toInt ∧ (x1).toInt < R) ∨ ((0 : Int32).toInt = 0 ∧ ((x1).toInt < 0 ∨ R ≤ (x1).toInt)) := by (have := li_0; omega)
    exact k _ p229
  · replace c228 := q_nlt c228
    rw [li_0] at c228
    refine ⟨fun c230 => ?_, fun c231 => ?_⟩
    · replace c230 := q_le c230
      have p232 : ((0 : Int32).toInt = 1 ∧ 0 ≤ (x1).toInt ∧ (x1).toInt < R) ∨ ((0 : Int32).toInt = 0 ∧ ((x1).toInt < 0 ∨ R ≤ (x1).toInt)) := by (have := li_0; omega)
      exact k _ p232
    · replace c231 := q_nle c231
      have p233 : ((1 : Int32).toInt = 1 ∧ 0 ≤ (x1).toInt ∧ (x1).toInt < R) ∨ ((1 : Int32).toInt = 0 ∧ ((x1).toInt < 0 ∨ R ≤ (x1).toInt)) := by (have := li_1; omega)
      exact k _ p233
theorem wq_X0_hasDrum {post : Int32 → Prop} {s0 : Bd} {x1 : Int32} {R W : Int} (h234 : bi (R) (W) s0) (k : ∀ (r : Int32), ((r).toInt = 1 ∧ 0 ≤ (x1).toInt ∧ (x1).toInt < (s0.1 3).toInt) ∨ ((r).toInt = 0 ∧ ((x1).toInt < 0 ∨ (s0.1 3).toInt ≤ (x1).toInt)) → post r) : wp_X0_hasDrum post s0 x1 := by
  unfold wp_X0_hasDrum
  have := h234.1
  have := h234.2.1
  have := h234.2.2.1
  have := h234.2.2.2.1
  have := h234.2.2.2.2.2.2.2.2.2
  refine ⟨fun c235 => ?_, fun c236 => ?_⟩
  · replace c235 := q_lt c235
    rw [li_0] at c235
    have p237 : ((0 : Int32).toInt = 1 ∧ 0 ≤ (x1).toInt ∧ (x1).toInt < (s0.1 3).toInt) ∨ ((0 : Int32).toInt = 0 ∧ ((x1).toInt < 0 ∨ (s0.1 3).toInt ≤ (x1).toInt)) := by (have := li_0; omega)
    exact k _ p237
  · replace c236 := q_nlt c236
    rw [li_0] at c236
    refine ⟨fun c238 => ?_, fun c239 => ?_⟩
    · replace c238 := q_le c238
      have p240 : ((0 : Int32).toInt = 1 ∧ 0 ≤ (x1).toInt ∧ (x1).toInt < (s0.1 3).toInt) ∨ ((0 : Int32).toInt = 0 ∧ ((x1).toInt < 0 ∨ (s0.1 3).toInt ≤ (x1).toInt)) := by (have := li_0; omega)
      exact k _ p240
    · replace c239 := q_nle c239
      have p241 : ((1 : Int32).toInt = 1 ∧ 0 ≤ (x1).toInt ∧ (x1).toInt < (s0.1 3).toInt) ∨ ((1 : Int32).toInt = 0 ∧ ((x1).toInt < 0 ∨ (s0.1 3).toInt ≤ (x1).toInt)) := by (have := li_1; omega)
      exact k _ p241
theorem wq_X0_flapsOf {post : Int32 → Prop} {s0 : Bd} {x1 : Int32} {R W : Int} (h242 : bi (R) (W) s0) (h243 : 0 ≤ (x1).toInt ∧ (x1).toInt < 40) (k : ∀ (r : Int32), 0 ≤ (r).toInt ∧ (r).toInt ≤ 40 → post r) : wp_X0_flapsOf post s0 x1 := by
  unfold wp_X0_flapsOf
  have := h242.1
  have := h242.2.1
  have := h242.2.2.1
  have := h242.2.2.2.1
  have := h242.2.2.2.2.2.2.2.2.2
  have v244 : vp_in x1 40 := vi (by omega) (by omega)
  refine ⟨v244, ?_⟩
  refine ⟨fun c245 => ?_, fun c246 => ?_⟩
  · replace c245 := q_lt c245
    rw [li_0] at c245
    have := ar_at (h242.2.2.2.2.2.1) v244
    have p247 : 0 ≤ (0 : Int32).toInt ∧ (0 : Int32).toInt ≤ 40 := by (have := li_0; omega)
    exact k _ p247
  · replace c246 := q_nlt c246
    rw [li_0] at c246
    have := ar_at (h242.2.2.2.2.2.1) v244
    refine ⟨fun c248 => ?_, fun c249 => ?_⟩
    · replace c248 := q_le c248
      have p250 : 0 ≤ (0 : Int32).toInt ∧ (0 : Int32).toInt ≤ 40 := by (have := li_0; omega)
      exact k _ p250
    · replace c249 := q_nle c249
      have v251 : vp_in (s0.2.1 3 (Int32.toNatClampNeg x1)) 4 := vi (by omega) (by omega)
      refine ⟨v251, ?_⟩
      have := ar_at (h242.2.2.2.2.1) v251
      have p252 : 0 ≤ (s0.2.1 1 (Int32.toNatClampNeg (s0.2.1 3 (Int32.toNatClampNeg x1)))).toInt ∧ (s0.2.1 1 (Int32.toNatClampNeg (s0.2.1 3 (Int32.toNatClampNeg x1)))).toInt ≤ 40 := by omega
      exact k _ p252
theorem wq_X0_hasFlap {post : Int32 → Prop} {s0 : Bd} {x1 : Int32} {x2 : Int32} {R W : Int} (h253 : bi (R) (W) s0) (k : ∀ (r : Int32), (r).toInt = 0 ∨ ((r).toInt = 1 ∧ 0 ≤ (x1).toInt ∧ (x1).toInt < R * W ∧ 0 ≤ (x2).toInt ∧ (x2).toInt < 40) → post r) : wp_X0_hasFlap post s0 x1 x2 := by
  unfold wp_X0_hasFlap
  have := h253.1
  have := h253.2.1
  have := h253.2.2.1
  have := h253.2.2.2.1
  have := h253.2.2.2.2.2.2.2.2.2
  refine wq_X0_hasCell h253 (fun r_1 q254 => ?_)
  refine ⟨fun c255 => ?_, fun c256 => ?_⟩
  · replace c255 := q_eq c255
    rw [li_0] at c255
    have p257 : (0 : Int32).toInt = 0 ∨ ((0 : Int32).toInt = 1 ∧ 0 ≤ (x1).toInt ∧ (x1).toInt < R * W ∧ 0 ≤ (x2).toInt ∧ (x2).toInt < 40) := by (have := li_0; omega)
    exact k _ p257
  · replace c256 := q_neq c256
    rw [li_0] at c256
    refine ⟨fun c258 => ?_, fun c259 => ?_⟩
    · replace c258 := q_lt c258
      rw [li_0] at c258
      have p260 : (0 : Int32).toInt = 0 ∨ ((0 : Int32).toInt = 1 ∧ 0 ≤ (x1).toInt ∧ (x1).toInt < R * W ∧ 0 ≤ (x2).toInt ∧ (x2).toInt < 40) := by (have := li_0; omega)
      exact k _ p260
    · replace c259 := q_nlt c259
      rw [li_0] at c259
      have p261 : 0 ≤ (x1).toInt ∧ (x1).toInt < 40 := by omega
      refine wq_X0_flapsOf h253 p261 (fun r_5 q262 => ?_)
      refine ⟨fun c263 => ?_, fun c264 => ?_⟩
      · replace c263 := q_le c263
        have p265 : (0 : Int32).toInt = 0 ∨ ((0 : Int32).toInt = 1 ∧ 0 ≤ (x1).toInt ∧ (x1).toInt < R * W ∧ 0 ≤ (x2).toInt ∧ (x2).toInt < 40) := by (have := li_0; omega)
        exact k _ p265
      · replace c264 := q_nle c264
        have p266 : (1 : Int32).toInt = 0 ∨ ((1 : Int32).toInt = 1 ∧ 0 ≤ (x1).toInt ∧ (x1).toInt < R * W ∧ 0 ≤ (x2).toInt ∧ (x2).toInt < 40) := by (have := li_1; omega)
        exact k _ p266
theorem wq_X0_flapsOn {post : Int32 → Prop} {s0 : Bd} {x1 : Int32} {R W : Int} (h267 : bi (R) (W) s0) (k : ∀ (r : Int32), 0 ≤ (r).toInt ∧ (r).toInt ≤ 40 → (r).toInt = 0 ∨ (0 ≤ (x1).toInt ∧ (x1).toInt < 4) → post r) : wp_X0_flapsOn post s0 x1 := by
  unfold wp_X0_flapsOn
  have := h267.1
  have := h267.2.1
  have := h267.2.2.1
  have := h267.2.2.2.1
  have := h267.2.2.2.2.2.2.2.2.2
  refine ⟨fun c268 => ?_, fun c269 => ?_⟩
  · replace c268 := q_lt c268
    rw [li_0] at c268
    have p270 : 0 ≤ (0 : Int32).toInt ∧ (0 : Int32).toInt ≤ 40 := by (have := li_0; omega)
    have p271 : (0 : Int32).toInt = 0 ∨ (0 ≤ (x1).toInt ∧ (x1).toInt < 4) := by (have := li_0; omega)
    exact k _ p270 p271
  · replace c269 := q_nlt c269
    rw [li_0] at c269
    refine ⟨fun c272 => ?_, fun c273 => ?_⟩
    · replace c272 := q_le c272
      have p274 : 0 ≤ (0 : Int32).toInt ∧ (0 : Int32).toInt ≤ 40 := by (have := li_0; omega)
      have p275 : (0 : Int32).toInt = 0 ∨ (0 ≤ (x1).toInt ∧ (x1).toInt < 4) := by (have := li_0; omega)
      exact k _ p274 p275
    · replace c273 := q_nle c273
      have v276 : vp_in x1 4 := vi (by omega) (by omega)
      refine ⟨v276, ?_⟩
      have := ar_at (h267.2.2.2.2.1) v276
      have p277 : 0 ≤ (s0.2.1 1 (Int32.toNatClampNeg x1)).toInt ∧ (s0.2.1 1 (Int32.toNatClampNeg x1)).toInt ≤ 40 := by omega
      have p278 : (s0.2.1 1 (Int32.toNatClampNeg x1)).toInt = 0 ∨ (0 ≤ (x1).toInt ∧ (x1).toInt < 4) := by omega
      exact k _ p277 p278
