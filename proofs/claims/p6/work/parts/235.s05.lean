theorem wq_X7_digest_L17 {s0 : Md} {post : Int64 → Prop} {e44 : Int64 → Int32 → Int32 → Prop} {N R W D Z : Int} (h101245 : mb (N) (R) (W) (D) s0) (ke44 : ∀ (w1 : Int64) (z3 : Int32) (z4 : Int32), 0 ≤ (z4).toInt ∧ (z4).toInt ≤ 5 → 0 ≤ (z3).toInt ∧ (z3).toInt < 40 → (z3).toInt = Z → e44 w1 z3 z4) : ∀ (n : Nat) (w1 : Int64) (z3 : Int32) (z4 : Int32), 0 ≤ (z4).toInt ∧ (z4).toInt ≤ 5 → 0 ≤ (z3).toInt ∧ (z3).toInt < 40 → (z3).toInt = Z → 5 - (z4).toInt < (n : Int) → wp_X7_digest_L17 s0 post e44 n w1 z3 z4 := by
  have := h101245.1
  have := h101245.2.1
  have := h101245.2.2.1
  have := h101245.2.2.2.1
  intro n
  induction n with
  | zero =>
    intro w1 z3 z4 i101246 i101247 i101248 i101249
    exfalso
    omega
  | succ n ih =>
    intro w1 z3 z4 i101246 i101247 i101248 i101249
    unfold wp_X7_digest_L17
    refine ⟨fun c101250 => ?_, fun c101251 => ?_⟩
    · replace c101250 := q_lt c101250
      rw [li_4] at c101250
      have p101252 : 0 ≤ (z4).toInt ∧ (z4).toInt ≤ 5 := by omega
      have p101253 : 0 ≤ (z3).toInt ∧ (z3).toInt < 40 := by omega
      have p101254 : (z3).toInt = Z := by omega
      exact ke44 _ _ _ p101252 p101253 p101254
    · replace c101251 := q_nlt c101251
      rw [li_4] at c101251
      have p101255 : 0 ≤ (z3).toInt ∧ (z3).toInt < 40 := by omega
      have p101256 : 0 ≤ (z4).toInt ∧ (z4).toInt ≤ 7 := by omega
      refine wq_X7_of_g h101245 p101255 p101256 (fun r_5 => ?_)
      have e101257 := tq_addr li_1 z4
      try rw [Int.emod_eq_of_lt (show 0 ≤ (z4).toInt + 1 + 2147483648 by omega) (show (z4).toInt + 1 + 2147483648 < 4294967296 by omega)] at e101257
      have p101258 : 0 ≤ (z4 + 1).toInt ∧ (z4 + 1).toInt ≤ 5 := by omega
      have p101259 : 0 ≤ (z3).toInt ∧ (z3).toInt < 40 := by omega
      have p101260 : (z3).toInt = Z := by omega
      have p101261 : 5 - (z4 + 1).toInt < ((n : Nat) : Int) := by (omega)
      exact ih _ _ _ p101258 p101259 p101260 p101261
theorem wq_X7_digest_L6 {s0 : Md} {post : Int64 → Prop} {e62 : Int64 → Int32 → Prop} {N R W D : Int} (h101262 : mb (N) (R) (W) (D) s0) (ke62 : ∀ (w1 : Int64) (z3 : Int32), 0 ≤ (z3).toInt ∧ (z3).toInt ≤ R * W → e62 w1 z3) : ∀ (n : Nat) (w1 : Int64) (z3 : Int32), 0 ≤ (z3).toInt ∧ (z3).toInt ≤ R * W → R * W - (z3).toInt < (n : Int) → wp_X7_digest_L6 s0 post e62 n w1 z3 := by
  have := h101262.1
  have := h101262.2.1
  have := h101262.2.2.1
  have := h101262.2.2.2.1
  intro n
  induction n with
  | zero =>
    intro w1 z3 i101263 i101264
    exfalso
    omega
  | succ n ih =>
    intro w1 z3 i101263 i101264
    unfold wp_X7_digest_L6
    refine wq_X7_cells h101262 (fun r_1 q101265 => ?_)
    refine ⟨fun c101266 => ?_, fun c101267 => ?_⟩
    · replace c101266 := q_le c101266
      have p101268 : 0 ≤ (z3).toInt ∧ (z3).toInt ≤ R * W := by omega
      exact ke62 _ _ p101268
    · replace c101267 := q_nle c101267
      have p101269 : 0 ≤ (0 : Int32).toInt ∧ (0 : Int32).toInt ≤ 5 := by (have := li_0; omega)
      have p101270 : 0 ≤ (z3).toInt ∧ (z3).toInt < 40 := by omega
      have p101271 : (z3).toInt = ((z3).toInt) := by omega
      obtain ⟨f101272, g101273⟩ := fu_e 10
      have p101274 : 5 - (0 : Int32).toInt < (f101272 : Int) := by (have := li_0; omega)
      refine ⟨f101272, wq_X7_digest_L17 h101262 (fun w1_101275 z3_101276 z4 q101277 q101278 q101279 => ?_) f101272 _ _ _ p101269 p101270 p101271 p101274⟩
      have p101280 : 0 ≤ (z3_101276).toInt ∧ (z3_101276).toInt < 40 := by omega
      refine wq_X7_wornOf p101280 (fun r_7 => ?_)
      have e101281 := tq_addr li_1 z3_101276
      try rw [Int.emod_eq_of_lt (show 0 ≤ (z3_101276).toInt + 1 + 2147483648 by omega) (show (z3_101276).toInt + 1 + 2147483648 < 4294967296 by omega)] at e101281
      have p101282 : 0 ≤ (z3_101276 + 1).toInt ∧ (z3_101276 + 1).toInt ≤ R * W := by omega
      have p101283 : R * W - (z3_101276 + 1).toInt < ((n : Nat) : Int) := by (omega)
      exact ih _ _ p101282 p101283
theorem wq_X7_digest {post : Int64 → Prop} {s0 : Md} {N R W D : Int} (h101284 : mb (N) (R) (W) (D) s0) (k : ∀ (r : Int64), post r) : wp_X7_digest post s0 := by
  unfold wp_X7_digest
  have := h101284.1
  have := h101284.2.1
  have := h101284.2.2.1
  have := h101284.2.2.2.1
  have p101285 : 0 ≤ (0 : Int32).toInt ∧ (0 : Int32).toInt ≤ R * W := by (have := li_0; omega)
  obtain ⟨f101286, g101287⟩ := fu_e 50
  have p101288 : R * W - (0 : Int32).toInt < (f101286 : Int) := by (have := li_0; omega)
  refine ⟨f101286, wq_X7_digest_L6 h101284 (fun w1 z3 q101289 => ?_) f101286 _ _ p101285 p101288⟩
  exact k _
