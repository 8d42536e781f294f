theorem wq_X7_asks_L13 {post : Md → Prop} {e135 : Md → Int32 → Int32 → Int32 → Int32 → Int32 → Prop} {D N R W : Int} {A : Nat → Int32} (h101290 : 0 < D) (ke135 : ∀ (t0 : Md) (z1 : Int32) (z2 : Int32) (z3 : Int32) (z4 : Int32) (z5 : Int32), mb (N) (R) (W) (D) t0 → ie [3, 4] t0.1 A → 0 ≤ (z1).toInt ∧ (z1).toInt < R → 0 ≤ (z5).toInt ∧ (z5).toInt ≤ W → 0 ≤ (z2).toInt ∧ (z2).toInt ≤ 10 ∧ 0 ≤ (z3).toInt ∧ 0 ≤ (z4).toInt ∧ (z3).toInt + (z4).toInt ≤ 400 → e135 t0 z1 z2 z3 z4 z5) : ∀ (n : Nat) (t0 : Md) (z1 : Int32) (z2 : Int32) (z3 : Int32) (z4 : Int32) (z5 : Int32), mb (N) (R) (W) (D) t0 → ie [3, 4] t0.1 A → 0 ≤ (z1).toInt ∧ (z1).toInt < R → 0 ≤ (z5).toInt ∧ (z5).toInt ≤ W → 0 ≤ (z2).toInt ∧ (z2).toInt ≤ 10 ∧ 0 ≤ (z3).toInt ∧ 0 ≤ (z4).toInt ∧ (z3).toInt + (z4).toInt ≤ 400 → W - (z5).toInt < (n : Int) → wp_X7_asks_L13 post e135 n t0 z1 z2 z3 z4 z5 := by
  intro n
  induction n with
  | zero =>
    intro t0 z1 z2 z3 z4 z5 i101291 i101292 i101293 i101294 i101295 i101296
    have := i101291.1
    have := i101291.2.1
    have := i101291.2.2.1
    have := i101291.2.2.2.1
    exfalso
    omega
  | succ n ih =>
    intro t0 z1 z2 z3 z4 z5 i101291 i101292 i101293 i101294 i101295 i101296
    unfold wp_X7_asks_L13
    have := i101291.1
    have := i101291.2.1
    have := i101291.2.2.1
    have := i101291.2.2.2.1
    refine wq_X7_wide i101291 (fun r_1 q101297 => ?_)
    refine ⟨fun c101298 => ?_, fun c101299 => ?_⟩
    · replace c101298 := q_le c101298
      have p101300 : ie [3, 4] t0.1 A := (ie_tr i101292 (by decide) (ie_refl _ _))
      have p101301 : 0 ≤ (z1).toInt ∧ (z1).toInt < R := by omega
      have p101302 : 0 ≤ (z5).toInt ∧ (z5).toInt ≤ W := by omega
      have p101303 : 0 ≤ (z2).toInt ∧ (z2).toInt ≤ 10 ∧ 0 ≤ (z3).toInt ∧ 0 ≤ (z4).toInt ∧ (z3).toInt + (z4).toInt ≤ 400 := by omega
      exact ke135 _ _ _ _ _ _ i101291 p101300 p101301 p101302 p101303
    · replace c101299 := q_nle c101299
      refine wq_X7_wide i101291 (fun r_4 q101304 => ?_)
      refine ⟨fun c101305 => ?_, fun c101306 => ?_⟩
      · replace c101305 := q_lt c101305
        have := rw_r (a := z1) (b := r_4) (R := R) (W := W) (by omega) (by omega) (by omega)
        have e101307 := tq_add (r_4 * z1) z5
        try rw [Int.emod_eq_of_lt (show 0 ≤ (r_4 * z1).toInt + (z5).toInt + 2147483648 by omega) (show (r_4 * z1).toInt + (z5).toInt + 2147483648 < 4294967296 by omega)] at e101307
        have p101308 : 0 ≤ ((r_4 * z1) + z5).toInt ∧ ((r_4 * z1) + z5).toInt < 40 := by omega
        refine wq_X7_of_2 i101291 p101308 (fun r_7 q101309 q101310 => ?_)
        have p101311 : 0 ≤ ((r_4 * z1) + z5).toInt ∧ ((r_4 * z1) + z5).toInt < 40 := by omega
        refine wq_X7_flaps i101291 p101311 (fun r_9 q101312 => ?_)
        have p101313 : 1 ≤ (r_9).toInt ∧ (r_9).toInt ≤ 40 := by omega
        have p101314 : 0 ≤ (r_7).toInt ∧ (r_7).toInt < (r_9).toInt := by omega
        have p101315 : 0 ≤ ((0 : Int32)).toInt ∧ ((0 : Int32)).toInt < (r_9).toInt := by (have := li_0; omega)
        refine wq_X7_on p101313 p101314 p101315 (fun r_11 q101316 => ?_)
        try simp only [li_0] at q101316
        have : (t0.1 5).toInt = (A 5).toInt := ie_i i101292 5 (by decide)
        have p101317 : (t0.1 5).toInt = N := by omega
        have : (t0.1 0).toInt = (A 0).toInt := ie_i i101292 0 (by decide)
        have p101318 : 0 ≤ (t0.1 0).toInt ∧ (t0.1 0).toInt ≤ 10 := by omega
        have p101319 : 0 ≤ N ∧ N ≤ 400 := by omega
        have p101320 : 0 ≤ R ∧ R ≤ 6 ∧ 0 ≤ W ∧ W ≤ 10 ∧ 0 ≤ R * W ∧ R * W ≤ 40 ∧ 0 ≤ D ∧ D ≤ 4 ∧ (D ≤ 0 ∨ 1 ≤ R) ∧ (1 ≤ R ∨ R * W = 0) := by omega
        have B101321 : mb (N) (R) (W) (D) ((va_up t0.1 3 ((t0.1 3) + r_11)), t0.2.1, t0.2.2.1, t0.2.2.2) := ⟨p101317, p101318, p101319, p101320, i101291.2.2.2.2.1, i101291.2.2.2.2.2.1, i101291.2.2.2.2.2.2.1, i101291.2.2.2.2.2.2.2⟩
        have p101322 : ie [3, 4] (va_up t0.1 3 ((t0.1 3) + r_11)) A := (ie_up (ie_tr i101292 (by decide) (ie_refl _ _)) (by decide))
        have p101323 : 0 ≤ (z1).toInt ∧ (z1).toInt < R := by omega
        have e101324 := tq_addr li_1 z5
        try rw [Int.emod_eq_of_lt (show 0 ≤ (z5).toInt + 1 + 2147483648 by omega) (show (z5).toInt + 1 + 2147483648 < 4294967296 by omega)] at e101324
        have p101325 : 0 ≤ (z5 + 1).toInt ∧ (z5 + 1).toInt ≤ W := by omega
        have p101326 : 0 ≤ (z2).toInt ∧ (z2).toInt ≤ 10 ∧ 0 ≤ (z3).toInt ∧ 0 ≤ (z4).toInt ∧ (z3).toInt + (z4).toInt ≤ 400 := by omega
        have p101327 : W - (z5 + 1).toInt < ((n : Nat) : Int) := by (omega)
        exact ih _ _ _ _ _ _ B101321 p101322 p101323 p101325 p101326 p101327
      · replace c101306 := q_nlt c101306
        refine ⟨fun c101328 => ?_, fun c101329 => ?_⟩
        · replace c101328 := q_le c101328
          have e101330 := tq_add z2 z4
          try rw [Int.emod_eq_of_lt (show 0 ≤ (z2).toInt + (z4).toInt + 2147483648 by omega) (show (z2).toInt + (z4).toInt + 2147483648 < 4294967296 by omega)] at e101330
          have := rw_r (a := z1) (b := r_4) (R := R) (W := W) (by omega) (by omega) (by omega)
          have e101331 := tq_add (r_4 * z1) z5
          try rw [Int.emod_eq_of_lt (show 0 ≤ (r_4 * z1).toInt + (z5).toInt + 2147483648 by omega) (show (r_4 * z1).toInt + (z5).toInt + 2147483648 < 4294967296 by omega)] at e101331
          have p101332 : 0 ≤ ((r_4 * z1) + z5).toInt ∧ ((r_4 * z1) + z5).toInt < 40 := by omega
          refine wq_X7_of_2 i101291 p101332 (fun r_14 q101333 q101334 => ?_)
          have p101335 : 0 ≤ ((r_4 * z1) + z5).toInt ∧ ((r_4 * z1) + z5).toInt < 40 := by omega
          refine wq_X7_flaps i101291 p101335 (fun r_16 q101336 => ?_)
          have p101337 : 1 ≤ (r_16).toInt ∧ (r_16).toInt ≤ 40 := by omega
          have p101338 : 0 ≤ (r_14).toInt ∧ (r_14).toInt < (r_16).toInt := by omega
          have p101339 : 0 ≤ ((0 : Int32)).toInt ∧ ((0 : Int32)).toInt < (r_16).toInt := by (have := li_0; omega)
          refine wq_X7_on p101337 p101338 p101339 (fun r_18 q101340 => ?_)
          try simp only [li_0] at q101340
          have : (t0.1 5).toInt = (A 5).toInt := ie_i i101292 5 (by decide)
          have p101341 : (t0.1 5).toInt = N := by omega
          have : (t0.1 0).toInt = (A 0).toInt := ie_i i101292 0 (by decide)
          have p101342 : 0 ≤ (t0.1 0).toInt ∧ (t0.1 0).toInt ≤ 10 := by omega
          have p101343 : 0 ≤ N ∧ N ≤ 400 := by omega
          have p101344 : 0 ≤ R ∧ R ≤ 6 ∧ 0 ≤ W ∧ W ≤ 10 ∧ 0 ≤ R * W ∧ R * W ≤ 40 ∧ 0 ≤ D ∧ D ≤ 4 ∧ (D ≤ 0 ∨ 1 ≤ R) ∧ (1 ≤ R ∨ R * W = 0) := by omega
          have B101345 : mb (N) (R) (W) (D) ((va_up t0.1 3 ((t0.1 3) + r_18)), t0.2.1, t0.2.2.1, t0.2.2.2) := ⟨p101341, p101342, p101343, p101344, i101291.2.2.2.2.1, i101291.2.2.2.2.2.1, i101291.2.2.2.2.2.2.1, i101291.2.2.2.2.2.2.2⟩
          have p101346 : ie [3, 4] (va_up t0.1 3 ((t0.1 3) + r_18)) A := (ie_up (ie_tr i101292 (by decide) (ie_refl _ _)) (by decide))
          have p101347 : 0 ≤ (z1).toInt ∧ (z1).toInt < R := by omega
          have e101348 := tq_addr li_1 z5
          try rw [Int.emod_eq_of_lt (show 0 ≤ (z5).toInt + 1 + 2147483648 by omega) (show (z5).toInt + 1 + 2147483648 < 4294967296 by omega)] at e101348
          have p101349 : 0 ≤ (z5 + 1).toInt ∧ (z5 + 1).toInt ≤ W := by omega
          have p101350 : 0 ≤ (z2).toInt ∧ (z2).toInt ≤ 10 ∧ 0 ≤ (z3).toInt ∧ 0 ≤ (z4).toInt ∧ (z3).toInt + (z4).toInt ≤ 400 := by omega
          have p101351 : W - (z5 + 1).toInt < ((n : Nat) : Int) := by (omega)
          exact ih _ _ _ _ _ _ B101345 p101346 p101347 p101349 p101350 p101351
        · replace c101329 := q_nle c101329
          have e101352 := tq_add z2 z4
          try rw [Int.emod_eq_of_lt (show 0 ≤ (z2).toInt + (z4).toInt + 2147483648 by omega) (show (z2).toInt + (z4).toInt + 2147483648 < 4294967296 by omega)] at e101352
          have e101353 := tq_add z3 z5
          try rw [Int.emod_eq_of_lt (show 0 ≤ (z3).toInt + (z5).toInt + 2147483648 by omega) (show (z3).toInt + (z5).toInt + 2147483648 < 4294967296 by omega)] at e101353
          have e101354 := tq_sub (z3 + z5) z2
          try rw [Int.emod_eq_of_lt (show 0 ≤ (z3 + z5).toInt - (z2).toInt + 2147483648 by omega) (show (z3 + z5).toInt - (z2).toInt + 2147483648 < 4294967296 by omega)] at e101354
          have v101355 : vp_in ((z3 + z5) - z2) 400 := vi (by omega) (by omega)
          refine ⟨v101355, ?_⟩
          have := rw_r (a := z1) (b := r_4) (R := R) (W := W) (by omega) (by omega) (by omega)
          have e101356 := tq_add (r_4 * z1) z5
          try rw [Int.emod_eq_of_lt (show 0 ≤ (r_4 * z1).toInt + (z5).toInt + 2147483648 by omega) (show (r_4 * z1).toInt + (z5).toInt + 2147483648 < 4294967296 by omega)] at e101356
          have p101357 : 0 ≤ ((r_4 * z1) + z5).toInt ∧ ((r_4 * z1) + z5).toInt < 40 := by omega
          have p101358 : 0 < D := by omega
          refine wq_X7_flapFor i101291 p101357 p101358 (fun r_21 q101359 => ?_)
          refine ⟨fun c101360 => ?_, fun c101361 => ?_⟩
          · replace c101360 := q_neq c101360
            rw [li_m1] at c101360
            have p101362 : 0 ≤ ((r_4 * z1) + z5).toInt ∧ ((r_4 * z1) + z5).toInt < 40 := by omega
            refine wq_X7_of_2 i101291 p101362 (fun r_24 q101363 q101364 => ?_)
            have p101365 : 0 ≤ ((r_4 * z1) + z5).toInt ∧ ((r_4 * z1) + z5).toInt < 40 := by omega
            refine wq_X7_flaps i101291 p101365 (fun r_26 q101366 => ?_)
            have p101367 : 1 ≤ (r_26).toInt ∧ (r_26).toInt ≤ 40 := by omega
            have p101368 : 0 ≤ (r_24).toInt ∧ (r_24).toInt < (r_26).toInt := by omega
            have p101369 : 0 ≤ (r_21).toInt ∧ (r_21).toInt < (r_26).toInt := by omega
            refine wq_X7_on p101367 p101368 p101369 (fun r_28 q101370 => ?_)
            have : (t0.1 5).toInt = (A 5).toInt := ie_i i101292 5 (by decide)
            have p101371 : (t0.1 5).toInt = N := by omega
            have : (t0.1 0).toInt = (A 0).toInt := ie_i i101292 0 (by decide)
            have p101372 : 0 ≤ (t0.1 0).toInt ∧ (t0.1 0).toInt ≤ 10 := by omega
            have p101373 : 0 ≤ N ∧ N ≤ 400 := by omega
            have p101374 : 0 ≤ R ∧ R ≤ 6 ∧ 0 ≤ W ∧ W ≤ 10 ∧ 0 ≤ R * W ∧ R * W ≤ 40 ∧ 0 ≤ D ∧ D ≤ 4 ∧ (D ≤ 0 ∨ 1 ≤ R) ∧ (1 ≤ R ∨ R * W = 0) := by omega
            have B101375 : mb (N) (R) (W) (D) ((va_up t0.1 3 ((t0.1 3) + r_28)), t0.2.1, t0.2.2.1, t0.2.2.2) := ⟨p101371, p101372, p101373, p101374, i101291.2.2.2.2.1, i101291.2.2.2.2.2.1, i101291.2.2.2.2.2.2.1, i101291.2.2.2.2.2.2.2⟩
            have p101376 : ie [3, 4] (va_up t0.1 3 ((t0.1 3) + r_28)) A := (ie_up (ie_tr i101292 (by decide) (ie_refl _ _)) (by decide))
            have p101377 : 0 ≤ (z1).toInt ∧ (z1).toInt < R := by omega
            have e101378 := tq_addr li_1 z5
            try rw [Int.emod_eq_of_lt (show 0 ≤ (z5).toInt + 1 + 2147483648 by omega) (show (z5).toInt + 1 + 2147483648 < 4294967296 by omega)] at e101378
            have p101379 : 0 ≤ (z5 + 1).toInt ∧ (z5 + 1).toInt ≤ W := by omega
            have p101380 : 0 ≤ (z2).toInt ∧ (z2).toInt ≤ 10 ∧ 0 ≤ (z3).toInt ∧ 0 ≤ (z4).toInt ∧ (z3).toInt + (z4).toInt ≤ 400 := by omega
            have p101381 : W - (z5 + 1).toInt < ((n : Nat) : Int) := by (omega)
            exact ih _ _ _ _ _ _ B101375 p101376 p101377 p101379 p101380 p101381
          · replace c101361 := q_eq c101361
            rw [li_m1] at c101361
            have : (t0.1 5).toInt = (A 5).toInt := ie_i i101292 5 (by decide)
            have p101382 : (t0.1 5).toInt = N := by omega
            have : (t0.1 0).toInt = (A 0).toInt := ie_i i101292 0 (by decide)
            have p101383 : 0 ≤ (t0.1 0).toInt ∧ (t0.1 0).toInt ≤ 10 := by omega
            have p101384 : 0 ≤ N ∧ N ≤ 400 := by omega
            have p101385 : 0 ≤ R ∧ R ≤ 6 ∧ 0 ≤ W ∧ W ≤ 10 ∧ 0 ≤ R * W ∧ R * W ≤ 40 ∧ 0 ≤ D ∧ D ≤ 4 ∧ (D ≤ 0 ∨ 1 ≤ R) ∧ (1 ≤ R ∨ R * W = 0) := by omega
            have B101386 : mb (N) (R) (W) (D) ((va_up t0.1 4 ((t0.1 4) + 1)), t0.2.1, t0.2.2.1, t0.2.2.2) := ⟨p101382, p101383, p101384, p101385, i101291.2.2.2.2.1, i101291.2.2.2.2.2.1, i101291.2.2.2.2.2.2.1, i101291.2.2.2.2.2.2.2⟩
            have p101387 : ie [3, 4] (va_up t0.1 4 ((t0.1 4) + 1)) A := (ie_up (ie_tr i101292 (by decide) (ie_refl _ _)) (by decide))
            have p101388 : 0 ≤ (z1).toInt ∧ (z1).toInt < R := by omega
            have e101389 := tq_addr li_1 z5
            try rw [Int.emod_eq_of_lt (show 0 ≤ (z5).toInt + 1 + 2147483648 by omega) (show (z5).toInt + 1 + 2147483648 < 4294967296 by omega)] at e101389
            have p101390 : 0 ≤ (z5 + 1).toInt ∧ (z5 + 1).toInt ≤ W := by omega
            have p101391 : 0 ≤ (z2).toInt ∧ (z2).toInt ≤ 10 ∧ 0 ≤ (z3).toInt ∧ 0 ≤ (z4).toInt ∧ (z3).toInt + (z4).toInt ≤ 400 := by omega
            have p101392 : W - (z5 + 1).toInt < ((n : Nat) : Int) := by (omega)
            exact ih _ _ _ _ _ _ B101386 p101387 p101388 p101390 p101391 p101392
theorem wq_X7_asks {post : Md → Prop} {s0 : Md} {x1 : Int32} {x2 : Int32} {x3 : Int32} {x4 : Int32} {N R W D : Int} (h101393 : mb (N) (R) (W) (D) s0) (h101394 : 0 < D) (h101395 : 0 ≤ (x1).toInt ∧ (x1).toInt < R) (h101396 : 0 ≤ (x2).toInt ∧ (x2).toInt ≤ 10 ∧ 0 ≤ (x3).toInt ∧ 0 ≤ (x4).toInt ∧ (x3).toInt + (x4).toInt ≤ 400) (k : ∀ (u : Md), mb (N) (R) (W) (D) u → ie [3, 4] u.1 s0.1 → post u) : wp_X7_asks post s0 x1 x2 x3 x4 := by
  unfold wp_X7_asks
  have := h101393.1
  have := h101393.2.1
  have := h101393.2.2.1
  have := h101393.2.2.2.1
  have p101397 : 0 < D := by omega
  have p101398 : (s0.1 5).toInt = N := by omega
  have p101399 : 0 ≤ (s0.1 0).toInt ∧ (s0.1 0).toInt ≤ 10 := by omega
  have p101400 : 0 ≤ N ∧ N ≤ 400 := by omega
  have p101401 : 0 ≤ R ∧ R ≤ 6 ∧ 0 ≤ W ∧ W ≤ 10 ∧ 0 ≤ R * W ∧ R * W ≤ 40 ∧ 0 ≤ D ∧ D ≤ 4 ∧ (D ≤ 0 ∨ 1 ≤ R) ∧ (1 ≤ R ∨ R * W = 0) := by omega
  have B101402 : mb (N) (R) (W) (D) ((va_up (va_up s0.1 3 0) 4 0), s0.2.1, s0.2.2.1, s0.2.2.2) := ⟨p101398, p101399, p101400, p101401, h101393.2.2.2.2.1, h101393.2.2.2.2.2.1, h101393.2.2.2.2.2.2.1, h101393.2.2.2.2.2.2.2⟩
  have p101403 : ie [3, 4] (va_up (va_up s0.1 3 0) 4 0) (va_up (va_up s0.1 3 0) 4 0) := (ie_refl _ _)
  have p101404 : 0 ≤ (x1).toInt ∧ (x1).toInt < R := by omega
  have p101405 : 0 ≤ (0 : Int32).toInt ∧ (0 : Int32).toInt ≤ W := by (have := li_0; omega)
  have p101406 : 0 ≤ (x2).toInt ∧ (x2).toInt ≤ 10 ∧ 0 ≤ (x3).toInt ∧ 0 ≤ (x4).toInt ∧ (x3).toInt + (x4).toInt ≤ 400 := by omega
  obtain ⟨f101407, g101408⟩ := fu_e 50
  have p101409 : W - (0 : Int32).toInt < (f101407 : Int) := by (have := li_0; omega)
  refine ⟨f101407, wq_X7_asks_L13 p101397 (fun t0 z1 z2 z3 z4 z5 q101410 q101411 q101412 q101413 q101414 => ?_) f101407 _ _ _ _ _ _ B101402 p101403 p101404 p101405 p101406 p101409⟩
  have := q101410.1
  have := q101410.2.1
  have p101415 : ie [3, 4] t0.1 s0.1 := (ie_tr q101411 (by decide) (ie_up (ie_up (ie_refl _ _) (by decide)) (by decide)))
  exact k _ q101410 p101415
theorem wq_X7_cost {post : Int32 → Md → Prop} {s0 : Md} {x1 : Int32} {N R W D : Int} (h101416 : mb (N) (R) (W) (D) s0) (h101417 : R ≤ 0 ∨ 0 < D) (k : ∀ (r : Int32) (u : Md), mb (N) (R) (W) (D) u → post r u) : wp_X7_cost post s0 x1 := by
  unfold wp_X7_cost
  have := h101416.1
  have := h101416.2.1
  have := h101416.2.2.1
  have := h101416.2.2.2.1
  refine wq_X7_isRow h101416 (fun r_1 q101418 => ?_)
  refine ⟨fun c101419 => ?_, fun c101420 => ?_⟩
  · replace c101419 := q_neq c101419
    rw [li_0] at c101419
    have p101421 : 0 ≤ (s0.1 5).toInt ∧ (s0.1 5).toInt ≤ 400 := by omega
    refine wq_X7_isRowText h101416 p101421 (fun r_4 q101422 => ?_)
    refine ⟨fun c101423 => ?_, fun c101424 => ?_⟩
    · replace c101423 := q_neq c101423
      rw [li_0] at c101423
      have p101425 : 0 < D := by omega
      have p101426 : 0 ≤ (x1).toInt ∧ (x1).toInt < R := by omega
      have p101427 : 0 ≤ ((0 : Int32)).toInt ∧ ((0 : Int32)).toInt ≤ 10 ∧ 0 ≤ ((0 : Int32)).toInt ∧ 0 ≤ (s0.1 5).toInt ∧ ((0 : Int32)).toInt + (s0.1 5).toInt ≤ 400 := by (have := li_0; omega)
      refine wq_X7_asks h101416 p101425 p101426 p101427 (fun u_8 q101428 q101429 => ?_)
      have := q101428.1
      have := q101428.2.1
      exact k _ _ q101428
    · replace c101424 := q_eq c101424
      rw [li_0] at c101424
      exact k _ _ h101416
  · replace c101420 := q_eq c101420
    rw [li_0] at c101420
    exact k _ _ h101416
theorem wq_X7_endOf_L2 {s0 : Md} {post : Int32 → Prop} {e27 : Int32 → Int32 → Prop} {N R W D Y : Int} (h101430 : mb (N) (R) (W) (D) s0) (ke27 : ∀ (z1 : Int32) (z2 : Int32), 0 ≤ (z2).toInt ∧ (z2).toInt ≤ N → (z1).toInt = Y → (z1).toInt ≤ (z2).toInt → e27 z1 z2) : ∀ (n : Nat) (z1 : Int32) (z2 : Int32), 0 ≤ (z2).toInt ∧ (z2).toInt ≤ N → (z1).toInt = Y → (z1).toInt ≤ (z2).toInt → N - (z2).toInt < (n : Int) → wp_X7_endOf_L2 s0 post e27 n z1 z2 := by
  have := h101430.1
  have := h101430.2.1
  have := h101430.2.2.1
  have := h101430.2.2.2.1
  intro n
  induction n with
  | zero =>
    intro z1 z2 i101431 i101432 i101433 i101434
    exfalso
    omega
  | succ n ih =>
    intro z1 z2 i101431 i101432 i101433 i101434
    unfold wp_X7_endOf_L2
    refine ⟨fun c101435 => ?_, fun c101436 => ?_⟩
    · replace c101435 := q_le c101435
      have p101437 : 0 ≤ (z2).toInt ∧ (z2).toInt ≤ N := by omega
      have p101438 : (z1).toInt = Y := by omega
      have p101439 : (z1).toInt ≤ (z2).toInt := by omega
      exact ke27 _ _ p101437 p101438 p101439
    · replace c101436 := q_nle c101436
      have v101440 : vp_in z2 400 := vi (by omega) (by omega)
      refine ⟨v101440, ?_⟩
      refine ⟨fun c101441 => ?_, fun c101442 => ?_⟩
      · replace c101441 := q_eq c101441
        rw [li_47] at c101441
        have p101443 : 0 ≤ (z2).toInt ∧ (z2).toInt ≤ N := by omega
        have p101444 : (z1).toInt = Y := by omega
        have p101445 : (z1).toInt ≤ (z2).toInt := by omega
        exact ke27 _ _ p101443 p101444 p101445
      · replace c101442 := q_neq c101442
        rw [li_47] at c101442
        have e101446 := tq_addr li_1 z2
        try rw [Int.emod_eq_of_lt (show 0 ≤ (z2).toInt + 1 + 2147483648 by omega) (show (z2).toInt + 1 + 2147483648 < 4294967296 by omega)] at e101446
        have p101447 : 0 ≤ (z2 + 1).toInt ∧ (z2 + 1).toInt ≤ N := by omega
        have p101448 : (z1).toInt = Y := by omega
        have p101449 : (z1).toInt ≤ (z2 + 1).toInt := by omega
        have p101450 : N - (z2 + 1).toInt < ((n : Nat) : Int) := by (omega)
        exact ih _ _ p101447 p101448 p101449 p101450
theorem wq_X7_endOf {post : Int32 → Prop} {s0 : Md} {x1 : Int32} {N R W D : Int} (h101451 : mb (N) (R) (W) (D) s0) (h101452 : 0 ≤ (x1).toInt ∧ (x1).toInt ≤ N) (k : ∀ (r : Int32), (x1).toInt ≤ (r).toInt ∧ (r).toInt ≤ N → post r) : wp_X7_endOf post s0 x1 := by
  unfold wp_X7_endOf
  have := h101451.1
  have := h101451.2.1
  have := h101451.2.2.1
  have := h101451.2.2.2.1
  have p101453 : 0 ≤ (x1).toInt ∧ (x1).toInt ≤ N := by omega
  have p101454 : (x1).toInt = ((x1).toInt) := by omega
  have p101455 : (x1).toInt ≤ (x1).toInt := by omega
  obtain ⟨f101456, g101457⟩ := fu_e 500
  have p101458 : N - (x1).toInt < (f101456 : Int) := by (omega)
  refine ⟨f101456, wq_X7_endOf_L2 h101451 (fun z1 z2 q101459 q101460 q101461 => ?_) f101456 _ _ p101453 p101454 p101455 p101458⟩
  have p101462 : (x1).toInt ≤ (z2).toInt ∧ (z2).toInt ≤ N := by omega
  exact k _ p101462
theorem wq_X7_best_L36 {post : Int32 → Md → Prop} {e152 : Md → Int32 → Int32 → Int32 → Int32 → Int32 → Int32 → Int32 → Prop} {D N R W : Int} (h101463 : 0 < D) (ke152 : ∀ (t0 : Md) (z1 : Int32) (z2 : Int32) (z3 : Int32) (z4 : Int32) (z5 : Int32) (z6 : Int32) (z7 : Int32), mb (N) (R) (W) (D) t0 → 0 ≤ (z1).toInt ∧ (z1).toInt < R → 0 ≤ (z7).toInt ∧ (z7).toInt ≤ N + 1 → e152 t0 z1 z2 z3 z4 z5 z6 z7) (k : ∀ (r : Int32) (u : Md), mb (N) (R) (W) (D) u → post r u) : ∀ (n : Nat) (t0 : Md) (z1 : Int32) (z2 : Int32) (z3 : Int32) (z4 : Int32) (z5 : Int32) (z6 : Int32) (z7 : Int32), mb (N) (R) (W) (D) t0 → 0 ≤ (z1).toInt ∧ (z1).toInt < R → 0 ≤ (z7).toInt ∧ (z7).toInt ≤ N + 1 → N + 1 - (z7).toInt < (n : Int) → wp_X7_best_L36 post e152 n t0 z1 z2 z3 z4 z5 z6 z7 := by
  intro n
  induction n with
  | zero =>
    intro t0 z1 z2 z3 z4 z5 z6 z7 i101464 i101465 i101466 i101467
    have := i101464.1
    have := i101464.2.1
    have := i101464.2.2.1
    have := i101464.2.2.2.1
    exfalso
    omega
  | succ n ih =>
    intro t0 z1 z2 z3 z4 z5 z6 z7 i101464 i101465 i101466 i101467
    unfold wp_X7_best_L36
    have := i101464.1
    have := i101464.2.1
    have := i101464.2.2.1
    have := i101464.2.2.2.1
    refine ⟨fun c101468 => ?_, fun c101469 => ?_⟩
    · replace c101468 := q_lt c101468
      have p101470 : 0 ≤ (z1).toInt ∧ (z1).toInt < R := by omega
      have p101471 : 0 ≤ (z7).toInt ∧ (z7).toInt ≤ N + 1 := by omega
      exact ke152 _ _ _ _ _ _ _ _ i101464 p101470 p101471
    · replace c101469 := q_nlt c101469
      have p101472 : 0 ≤ (z7).toInt ∧ (z7).toInt ≤ N := by omega
      refine wq_X7_endOf i101464 p101472 (fun r_8 q101473 => ?_)
      refine wq_X7_wide i101464 (fun r_10 q101474 => ?_)
      refine ⟨fun c101475 => ?_, fun c101476 => ?_⟩
      · replace c101475 := q_lt c101475
        have e101477 := tq_sub r_8 z7
        try rw [Int.emod_eq_of_lt (show 0 ≤ (r_8).toInt - (z7).toInt + 2147483648 by omega) (show (r_8).toInt - (z7).toInt + 2147483648 < 4294967296 by omega)] at e101477
        exact k _ _ i101464
      · replace c101476 := q_nlt c101476
        have e101478 := tq_sub r_8 z7
        try rw [Int.emod_eq_of_lt (show 0 ≤ (r_8).toInt - (z7).toInt + 2147483648 by omega) (show (r_8).toInt - (z7).toInt + 2147483648 < 4294967296 by omega)] at e101478
        have p101479 : 0 ≤ (z7).toInt ∧ 0 ≤ (r_8 - z7).toInt ∧ (z7).toInt + (r_8 - z7).toInt ≤ 400 := by omega
        refine wq_X7_areSigns p101479 (fun r_13 q101480 => ?_)
        refine ⟨fun c101481 => ?_, fun c101482 => ?_⟩
        · replace c101481 := q_neq c101481
          rw [li_0] at c101481
          have p101483 : 0 < D := by omega
          have p101484 : 0 ≤ (z1).toInt ∧ (z1).toInt < R := by omega
          have p101485 : 0 ≤ ((0 : Int32)).toInt ∧ ((0 : Int32)).toInt ≤ 10 ∧ 0 ≤ (z7).toInt ∧ 0 ≤ (r_8 - z7).toInt ∧ (z7).toInt + (r_8 - z7).toInt ≤ 400 := by (have := li_0; omega)
          refine wq_X7_asks i101464 p101483 p101484 p101485 (fun u_17 q101486 q101487 => ?_)
          have := q101486.1
          have := q101486.2.1
          refine ⟨fun c101488 => ?_, fun c101489 => ?_⟩
          · replace c101488 := q_eq c101488
            rw [li_m1] at c101488
            have p101490 : 0 ≤ (z7).toInt ∧ (z7).toInt ≤ N := by omega
            refine wq_X7_endOf q101486 p101490 (fun r_19 q101491 => ?_)
            have p101492 : 0 ≤ (z1).toInt ∧ (z1).toInt < R := by omega
            have e101493 := tq_addr li_1 r_19
            try rw [Int.emod_eq_of_lt (show 0 ≤ (r_19).toInt + 1 + 2147483648 by omega) (show (r_19).toInt + 1 + 2147483648 < 4294967296 by omega)] at e101493
            have p101494 : 0 ≤ (r_19 + 1).toInt ∧ (r_19 + 1).toInt ≤ N + 1 := by omega
            have p101495 : N + 1 - (r_19 + 1).toInt < ((n : Nat) : Int) := by (omega)
            exact ih _ _ _ _ _ _ _ _ q101486 p101492 p101494 p101495
          · replace c101489 := q_neq c101489
            rw [li_m1] at c101489
            refine ⟨fun c101496 => ?_, fun c101497 => ?_⟩
            · replace c101496 := q_lt c101496
              have p101498 : 0 ≤ (z7).toInt ∧ (z7).toInt ≤ N := by omega
              refine wq_X7_endOf q101486 p101498 (fun r_22 q101499 => ?_)
              have p101500 : 0 ≤ (z1).toInt ∧ (z1).toInt < R := by omega
              have e101501 := tq_addr li_1 r_22
              try rw [Int.emod_eq_of_lt (show 0 ≤ (r_22).toInt + 1 + 2147483648 by omega) (show (r_22).toInt + 1 + 2147483648 < 4294967296 by omega)] at e101501
              have p101502 : 0 ≤ (r_22 + 1).toInt ∧ (r_22 + 1).toInt ≤ N + 1 := by omega
              have p101503 : N + 1 - (r_22 + 1).toInt < ((n : Nat) : Int) := by (omega)
              exact ih _ _ _ _ _ _ _ _ q101486 p101500 p101502 p101503
            · replace c101497 := q_nlt c101497
              refine ⟨fun c101504 => ?_, fun c101505 => ?_⟩
              · replace c101504 := q_neq c101504
                have p101506 : 0 ≤ (z7).toInt ∧ (z7).toInt ≤ N := by omega
                refine wq_X7_endOf q101486 p101506 (fun r_25 q101507 => ?_)
                have p101508 : 0 ≤ (z1).toInt ∧ (z1).toInt < R := by omega
                have e101509 := tq_addr li_1 r_25
                try rw [Int.emod_eq_of_lt (show 0 ≤ (r_25).toInt + 1 + 2147483648 by omega) (show (r_25).toInt + 1 + 2147483648 < 4294967296 by omega)] at e101509
                have p101510 : 0 ≤ (r_25 + 1).toInt ∧ (r_25 + 1).toInt ≤ N + 1 := by omega
                have p101511 : N + 1 - (r_25 + 1).toInt < ((n : Nat) : Int) := by (omega)
                exact ih _ _ _ _ _ _ _ _ q101486 p101508 p101510 p101511
              · replace c101505 := q_eq c101505
                refine ⟨fun c101512 => ?_, fun c101513 => ?_⟩
                · replace c101512 := q_le c101512
                  have p101514 : 0 ≤ (z7).toInt ∧ (z7).toInt ≤ N := by omega
                  refine wq_X7_endOf q101486 p101514 (fun r_28 q101515 => ?_)
                  have p101516 : 0 ≤ (z1).toInt ∧ (z1).toInt < R := by omega
                  have e101517 := tq_addr li_1 r_28
                  try rw [Int.emod_eq_of_lt (show 0 ≤ (r_28).toInt + 1 + 2147483648 by omega) (show (r_28).toInt + 1 + 2147483648 < 4294967296 by omega)] at e101517
                  have p101518 : 0 ≤ (r_28 + 1).toInt ∧ (r_28 + 1).toInt ≤ N + 1 := by omega
                  have p101519 : N + 1 - (r_28 + 1).toInt < ((n : Nat) : Int) := by (omega)
                  exact ih _ _ _ _ _ _ _ _ q101486 p101516 p101518 p101519
                · replace c101513 := q_nle c101513
                  have p101520 : 0 ≤ (z7).toInt ∧ (z7).toInt ≤ N := by omega
                  refine wq_X7_endOf q101486 p101520 (fun r_30 q101521 => ?_)
                  have p101522 : 0 ≤ (z1).toInt ∧ (z1).toInt < R := by omega
                  have e101523 := tq_addr li_1 r_30
                  try rw [Int.emod_eq_of_lt (show 0 ≤ (r_30).toInt + 1 + 2147483648 by omega) (show (r_30).toInt + 1 + 2147483648 < 4294967296 by omega)] at e101523
                  have p101524 : 0 ≤ (r_30 + 1).toInt ∧ (r_30 + 1).toInt ≤ N + 1 := by omega
                  have p101525 : N + 1 - (r_30 + 1).toInt < ((n : Nat) : Int) := by (omega)
                  exact ih _ _ _ _ _ _ _ _ q101486 p101522 p101524 p101525
        · replace c101482 := q_eq c101482
          rw [li_0] at c101482
          exact k _ _ i101464
theorem wq_X7_best {post : Int32 → Md → Prop} {s0 : Md} {x1 : Int32} {x2 : Int32} {N R W D : Int} (h101526 : mb (N) (R) (W) (D) s0) (h101527 : R ≤ 0 ∨ 0 < D) (k : ∀ (r : Int32) (u : Md), mb (N) (R) (W) (D) u → post r u) : wp_X7_best post s0 x1 x2 := by
  unfold wp_X7_best
  have := h101526.1
  have := h101526.2.1
  have := h101526.2.2.1
  have := h101526.2.2.2.1
  refine wq_X7_isRow h101526 (fun r_1 q101528 => ?_)
  refine ⟨fun c101529 => ?_, fun c101530 => ?_⟩
  · replace c101529 := q_eq c101529
    rw [li_0] at c101529
    exact k _ _ h101526
  · replace c101530 := q_neq c101530
    rw [li_0] at c101530
    refine wq_X7_in (fun r_4 q101531 => ?_)
    try simp only [lj_0, lj_2] at q101531
    have := tq_64 x2
    refine ⟨fun c101532 => ?_, fun c101533 => ?_⟩
    · replace c101532 := q_neq c101532
      rw [li_0] at c101532
      have p101534 : 0 < D := by omega
      have p101535 : 0 ≤ (x1).toInt ∧ (x1).toInt < R := by omega
      have p101536 : 0 ≤ (0 : Int32).toInt ∧ (0 : Int32).toInt ≤ N + 1 := by (have := li_0; omega)
      obtain ⟨f101537, g101538⟩ := fu_e 500
      have p101539 : N + 1 - (0 : Int32).toInt < (f101537 : Int) := by (have := li_0; omega)
      refine ⟨f101537, wq_X7_best_L36 p101534 (fun t0 z1 z2 z3 z4 z5 z6 z7 q101540 q101541 q101542 => ?_) k f101537 _ _ _ _ _ _ _ _ h101526 p101535 p101536 p101539⟩
      have := q101540.1
      have := q101540.2.1
      refine ⟨fun c101543 => ?_, fun c101544 => ?_⟩
      · replace c101543 := q_neq c101543
        rw [li_0] at c101543
        refine ⟨fun c101545 => ?_, fun c101546 => ?_⟩
        · replace c101545 := q_neq c101545
          rw [li_1] at c101545
          exact k _ _ q101540
        · replace c101546 := q_eq c101546
          rw [li_1] at c101546
          exact k _ _ q101540
      · replace c101544 := q_eq c101544
        rw [li_0] at c101544
        exact k _ _ q101540
    · replace c101533 := q_eq c101533
      rw [li_0] at c101533
      exact k _ _ h101526
theorem wq_X7_place_L52 {post : Int32 → Md → Prop} {e134 : Md → Int32 → Int32 → Int32 → Int32 → Int32 → Int32 → Prop} {D N R W : Int} (h101547 : 0 < D) (ke134 : ∀ (t0 : Md) (z1 : Int32) (z2 : Int32) (z3 : Int32) (z4 : Int32) (z5 : Int32) (z6 : Int32), mb (N) (R) (W) (D) t0 → 0 ≤ (z1).toInt ∧ (z1).toInt < R → 0 ≤ (z6).toInt ∧ (z6).toInt ≤ 11 → e134 t0 z1 z2 z3 z4 z5 z6) : ∀ (n : Nat) (t0 : Md) (z1 : Int32) (z2 : Int32) (z3 : Int32) (z4 : Int32) (z5 : Int32) (z6 : Int32), mb (N) (R) (W) (D) t0 → 0 ≤ (z1).toInt ∧ (z1).toInt < R → 0 ≤ (z6).toInt ∧ (z6).toInt ≤ 11 → 11 - (z6).toInt < (n : Int) → wp_X7_place_L52 post e134 n t0 z1 z2 z3 z4 z5 z6 := by
  intro n
  induction n with
  | zero =>
    intro t0 z1 z2 z3 z4 z5 z6 i101548 i101549 i101550 i101551
    have := i101548.1
    have := i101548.2.1
    have := i101548.2.2.1
    have := i101548.2.2.2.1
    exfalso
    omega
  | succ n ih =>
    intro t0 z1 z2 z3 z4 z5 z6 i101548 i101549 i101550 i101551
    unfold wp_X7_place_L52
    have := i101548.1
    have := i101548.2.1
    have := i101548.2.2.1
    have := i101548.2.2.2.1
    refine wq_X7_wide i101548 (fun r_11 q101552 => ?_)
    refine ⟨fun c101553 => ?_, fun c101554 => ?_⟩
    · replace c101553 := q_lt c101553
      have e101555 := tq_add z6 (t0.1 5)
      try rw [Int.emod_eq_of_lt (show 0 ≤ (z6).toInt + (t0.1 5).toInt + 2147483648 by omega) (show (z6).toInt + (t0.1 5).toInt + 2147483648 < 4294967296 by omega)] at e101555
      have p101556 : 0 ≤ (z1).toInt ∧ (z1).toInt < R := by omega
      have p101557 : 0 ≤ (z6).toInt ∧ (z6).toInt ≤ 11 := by omega
      exact ke134 _ _ _ _ _ _ _ i101548 p101556 p101557
    · replace c101554 := q_nlt c101554
      have e101558 := tq_add z6 (t0.1 5)
      try rw [Int.emod_eq_of_lt (show 0 ≤ (z6).toInt + (t0.1 5).toInt + 2147483648 by omega) (show (z6).toInt + (t0.1 5).toInt + 2147483648 < 4294967296 by omega)] at e101558
      have p101559 : 0 < D := by omega
      have p101560 : 0 ≤ (z1).toInt ∧ (z1).toInt < R := by omega
      have p101561 : 0 ≤ (z6).toInt ∧ (z6).toInt ≤ 10 ∧ 0 ≤ ((0 : Int32)).toInt ∧ 0 ≤ (t0.1 5).toInt ∧ ((0 : Int32)).toInt + (t0.1 5).toInt ≤ 400 := by (have := li_0; omega)
      refine wq_X7_asks i101548 p101559 p101560 p101561 (fun u_15 q101562 q101563 => ?_)
      have := q101562.1
      have := q101562.2.1
      refine ⟨fun c101564 => ?_, fun c101565 => ?_⟩
      · replace c101564 := q_eq c101564
        rw [li_m1] at c101564
        have p101566 : 0 ≤ (z1).toInt ∧ (z1).toInt < R := by omega
        have e101567 := tq_addr li_1 z6
        try rw [Int.emod_eq_of_lt (show 0 ≤ (z6).toInt + 1 + 2147483648 by omega) (show (z6).toInt + 1 + 2147483648 < 4294967296 by omega)] at e101567
        have p101568 : 0 ≤ (z6 + 1).toInt ∧ (z6 + 1).toInt ≤ 11 := by omega
        have p101569 : 11 - (z6 + 1).toInt < ((n : Nat) : Int) := by (omega)
        exact ih _ _ _ _ _ _ _ q101562 p101566 p101568 p101569
      · replace c101565 := q_neq c101565
        rw [li_m1] at c101565
        refine ⟨fun c101570 => ?_, fun c101571 => ?_⟩
        · replace c101570 := q_lt c101570
          have p101572 : 0 ≤ (z1).toInt ∧ (z1).toInt < R := by omega
          have e101573 := tq_addr li_1 z6
          try rw [Int.emod_eq_of_lt (show 0 ≤ (z6).toInt + 1 + 2147483648 by omega) (show (z6).toInt + 1 + 2147483648 < 4294967296 by omega)] at e101573
          have p101574 : 0 ≤ (z6 + 1).toInt ∧ (z6 + 1).toInt ≤ 11 := by omega
          have p101575 : 11 - (z6 + 1).toInt < ((n : Nat) : Int) := by (omega)
          exact ih _ _ _ _ _ _ _ q101562 p101572 p101574 p101575
        · replace c101571 := q_nlt c101571
          refine ⟨fun c101576 => ?_, fun c101577 => ?_⟩
          · replace c101576 := q_neq c101576
            have p101578 : 0 ≤ (z1).toInt ∧ (z1).toInt < R := by omega
            have e101579 := tq_addr li_1 z6
            try rw [Int.emod_eq_of_lt (show 0 ≤ (z6).toInt + 1 + 2147483648 by omega) (show (z6).toInt + 1 + 2147483648 < 4294967296 by omega)] at e101579
            have p101580 : 0 ≤ (z6 + 1).toInt ∧ (z6 + 1).toInt ≤ 11 := by omega
            have p101581 : 11 - (z6 + 1).toInt < ((n : Nat) : Int) := by (omega)
            exact ih _ _ _ _ _ _ _ q101562 p101578 p101580 p101581
          · replace c101577 := q_eq c101577
            refine ⟨fun c101582 => ?_, fun c101583 => ?_⟩
            · replace c101582 := q_lt c101582
              have p101584 : 0 ≤ (z1).toInt ∧ (z1).toInt < R := by omega
              have e101585 := tq_addr li_1 z6
              try rw [Int.emod_eq_of_lt (show 0 ≤ (z6).toInt + 1 + 2147483648 by omega) (show (z6).toInt + 1 + 2147483648 < 4294967296 by omega)] at e101585
              have p101586 : 0 ≤ (z6 + 1).toInt ∧ (z6 + 1).toInt ≤ 11 := by omega
              have p101587 : 11 - (z6 + 1).toInt < ((n : Nat) : Int) := by (omega)
              exact ih _ _ _ _ _ _ _ q101562 p101584 p101586 p101587
            · replace c101583 := q_nlt c101583
              have p101588 : 0 ≤ (z1).toInt ∧ (z1).toInt < R := by omega
              have e101589 := tq_addr li_1 z6
              try rw [Int.emod_eq_of_lt (show 0 ≤ (z6).toInt + 1 + 2147483648 by omega) (show (z6).toInt + 1 + 2147483648 < 4294967296 by omega)] at e101589
              have p101590 : 0 ≤ (z6 + 1).toInt ∧ (z6 + 1).toInt ≤ 11 := by omega
              have p101591 : 11 - (z6 + 1).toInt < ((n : Nat) : Int) := by (omega)
              exact ih _ _ _ _ _ _ _ q101562 p101588 p101590 p101591
theorem wq_X7_place {post : Int32 → Md → Prop} {s0 : Md} {x1 : Int32} {x2 : Int32} {N R W D : Int} (h101592 : mb (N) (R) (W) (D) s0) (h101593 : R ≤ 0 ∨ 0 < D) (k : ∀ (r : Int32) (u : Md), mb (N) (R) (W) (D) u → post r u) : wp_X7_place post s0 x1 x2 := by
  unfold wp_X7_place
  have := h101592.1
  have := h101592.2.1
  have := h101592.2.2.1
  have := h101592.2.2.2.1
  refine wq_X7_isRow h101592 (fun r_1 q101594 => ?_)
  refine ⟨fun c101595 => ?_, fun c101596 => ?_⟩
  · replace c101595 := q_eq c101595
    rw [li_0] at c101595
    exact k _ _ h101592
  · replace c101596 := q_neq c101596
    rw [li_0] at c101596
    refine wq_X7_in (fun r_4 q101597 => ?_)
    try simp only [lj_0, lj_1] at q101597
    have := tq_64 x2
    refine ⟨fun c101598 => ?_, fun c101599 => ?_⟩
    · replace c101598 := q_neq c101598
      rw [li_0] at c101598
      refine ⟨fun c101600 => ?_, fun c101601 => ?_⟩
      · replace c101600 := q_eq c101600
        rw [li_0] at c101600
        exact k _ _ h101592
      · replace c101601 := q_neq c101601
        rw [li_0] at c101601
        have p101602 : 0 ≤ (s0.1 5).toInt ∧ (s0.1 5).toInt ≤ 400 := by omega
        refine wq_X7_isRowText h101592 p101602 (fun r_8 q101603 => ?_)
        refine ⟨fun c101604 => ?_, fun c101605 => ?_⟩
        · replace c101604 := q_neq c101604
          rw [li_0] at c101604
          have p101606 : 0 < D := by omega
          have p101607 : 0 ≤ (x1).toInt ∧ (x1).toInt < R := by omega
          have p101608 : 0 ≤ (0 : Int32).toInt ∧ (0 : Int32).toInt ≤ 11 := by (have := li_0; omega)
          obtain ⟨f101609, g101610⟩ := fu_e 50
          have p101611 : 11 - (0 : Int32).toInt < (f101609 : Int) := by (have := li_0; omega)
          refine ⟨f101609, wq_X7_place_L52 p101606 (fun t0 z1 z2 z3 z4 z5 z6 q101612 q101613 q101614 => ?_) f101609 _ _ _ _ _ _ _ h101592 p101607 p101608 p101611⟩
          have := q101612.1
          have := q101612.2.1
          refine ⟨fun c101615 => ?_, fun c101616 => ?_⟩
          · replace c101615 := q_neq c101615
            rw [li_0] at c101615
            exact k _ _ q101612
          · replace c101616 := q_eq c101616
            rw [li_0] at c101616
            exact k _ _ q101612
        · replace c101605 := q_eq c101605
          rw [li_0] at c101605
          exact k _ _ h101592
    · replace c101599 := q_eq c101599
      rw [li_0] at c101599
      exact k _ _ h101592
theorem wq_X7_logged {post : Int32 → Prop} {s0 : Md} {x1 : Int32} {x2 : Int32} {x3 : Int32} (h101617 : 0 ≤ (x1).toInt ∧ (x1).toInt < 4) (h101618 : 0 ≤ (x2).toInt ∧ (x2).toInt < 40) (h101619 : 0 ≤ (x3).toInt ∧ (x3).toInt < 40) (k : ∀ (r : Int32), post r) : wp_X7_logged post s0 x1 x2 x3 := by
  unfold wp_X7_logged
  have e101620 := tq_mulc li_40 x1
  try rw [Int.emod_eq_of_lt (show 0 ≤ 40 * (x1).toInt + 2147483648 by omega) (show 40 * (x1).toInt + 2147483648 < 4294967296 by omega)] at e101620
  have e101621 := tq_add (40 * x1) x2
  try rw [Int.emod_eq_of_lt (show 0 ≤ (40 * x1).toInt + (x2).toInt + 2147483648 by omega) (show (40 * x1).toInt + (x2).toInt + 2147483648 < 4294967296 by omega)] at e101621
  have e101622 := tq_mulc li_40 ((40 * x1) + x2)
  try rw [Int.emod_eq_of_lt (show 0 ≤ 40 * ((40 * x1) + x2).toInt + 2147483648 by omega) (show 40 * ((40 * x1) + x2).toInt + 2147483648 < 4294967296 by omega)] at e101622
  have e101623 := tq_addc li_496 (40 * ((40 * x1) + x2))
  try rw [Int.emod_eq_of_lt (show 0 ≤ 496 + (40 * ((40 * x1) + x2)).toInt + 2147483648 by omega) (show 496 + (40 * ((40 * x1) + x2)).toInt + 2147483648 < 4294967296 by omega)] at e101623
  have e101624 := tq_add (496 + (40 * ((40 * x1) + x2))) x3
  try rw [Int.emod_eq_of_lt (show 0 ≤ (496 + (40 * ((40 * x1) + x2))).toInt + (x3).toInt + 2147483648 by omega) (show (496 + (40 * ((40 * x1) + x2))).toInt + (x3).toInt + 2147483648 < 4294967296 by omega)] at e101624
  have v101625 : vp_in ((496 + (40 * ((40 * x1) + x2))) + x3) 6896 := vi (by omega) (by omega)
  refine ⟨v101625, ?_⟩
  exact k _

theorem wq_X7_moved {post : Int32 → Prop} {x0 : Int32} {x1 : Int32} {x2 : Int32} (k : ∀ (r : Int32), (r).toInt = (x0).toInt ∨ (r).toInt = (x1).toInt ∨ (r).toInt = (x2).toInt → post r) : wp_X7_moved post x0 x1 x2 := by
  unfold wp_X7_moved
  refine ⟨fun c101626 => ?_, fun c101627 => ?_⟩
  · replace c101626 := q_neq c101626
    refine ⟨fun c101628 => ?_, fun c101629 => ?_⟩
    · replace c101628 := q_neq c101628
      have p101630 : (x0).toInt = (x0).toInt ∨ (x0).toInt = (x1).toInt ∨ (x0).toInt = (x2).toInt := by omega
      exact k _ p101630
    · replace c101629 := q_eq c101629
      have p101631 : (x1).toInt = (x0).toInt ∨ (x1).toInt = (x1).toInt ∨ (x1).toInt = (x2).toInt := by omega
      exact k _ p101631
  · replace c101627 := q_eq c101627
    have p101632 : (x2).toInt = (x0).toInt ∨ (x2).toInt = (x1).toInt ∨ (x2).toInt = (x2).toInt := by omega
    exact k _ p101632
theorem wq_X7_journey_L23 {s0 : Md} {post : Int32 → Prop} {e82 : Int32 → Int32 → Int32 → Int32 → Int32 → Int32 → Int32 → Prop} {Z Y : Int} (ke82 : ∀ (z1 : Int32) (z2 : Int32) (z3 : Int32) (z4 : Int32) (z5 : Int32) (z6 : Int32) (z7 : Int32), 0 ≤ (z1).toInt ∧ (z1).toInt < 4 ∧ 2 ≤ (z4).toInt ∧ (z4).toInt ≤ 40 ∧ 0 ≤ (z2).toInt ∧ (z2).toInt < (z4).toInt ∧ 0 ≤ (z3).toInt ∧ (z3).toInt < (z4).toInt → 0 ≤ (z6).toInt ∧ (z6).toInt < (z4).toInt ∧ 0 ≤ (z7).toInt ∧ (z7).toInt ≤ (z4).toInt → (z6).toInt = Z → (z4).toInt = Y → e82 z1 z2 z3 z4 z5 z6 z7) : ∀ (n : Nat) (z1 : Int32) (z2 : Int32) (z3 : Int32) (z4 : Int32) (z5 : Int32) (z6 : Int32) (z7 : Int32), 0 ≤ (z1).toInt ∧ (z1).toInt < 4 ∧ 2 ≤ (z4).toInt ∧ (z4).toInt ≤ 40 ∧ 0 ≤ (z2).toInt ∧ (z2).toInt < (z4).toInt ∧ 0 ≤ (z3).toInt ∧ (z3).toInt < (z4).toInt → 0 ≤ (z6).toInt ∧ (z6).toInt < (z4).toInt ∧ 0 ≤ (z7).toInt ∧ (z7).toInt ≤ (z4).toInt → (z6).toInt = Z → (z4).toInt = Y → (z4).toInt - (z7).toInt < (n : Int) → wp_X7_journey_L23 s0 post e82 n z1 z2 z3 z4 z5 z6 z7 := by
  intro n
  induction n with
  | zero =>
    intro z1 z2 z3 z4 z5 z6 z7 i101633 i101634 i101635 i101636 i101637
    exfalso
    omega
  | succ n ih =>
    intro z1 z2 z3 z4 z5 z6 z7 i101633 i101634 i101635 i101636 i101637
    unfold wp_X7_journey_L23
    refine ⟨fun c101638 => ?_, fun c101639 => ?_⟩
    · replace c101638 := q_le c101638
      have p101640 : 0 ≤ (z1).toInt ∧ (z1).toInt < 4 ∧ 2 ≤ (z4).toInt ∧ (z4).toInt ≤ 40 ∧ 0 ≤ (z2).toInt ∧ (z2).toInt < (z4).toInt ∧ 0 ≤ (z3).toInt ∧ (z3).toInt < (z4).toInt := by omega
      have p101641 : 0 ≤ (z6).toInt ∧ (z6).toInt < (z4).toInt ∧ 0 ≤ (z7).toInt ∧ (z7).toInt ≤ (z4).toInt := by omega
      have p101642 : (z6).toInt = Z := by omega
      have p101643 : (z4).toInt = Y := by omega
      exact ke82 _ _ _ _ _ _ _ p101640 p101641 p101642 p101643
    · replace c101639 := q_nle c101639
      have p101644 : 0 ≤ (z1).toInt ∧ (z1).toInt < 4 := by omega
      have p101645 : 0 ≤ (z6).toInt ∧ (z6).toInt < 40 := by omega
      have p101646 : 0 ≤ (z7).toInt ∧ (z7).toInt < 40 := by omega
      refine wq_X7_logged p101644 p101645 p101646 (fun r_5 => ?_)
      refine ⟨fun c101647 => ?_, fun c101648 => ?_⟩
      · replace c101647 := q_le c101647
        rw [li_0] at c101647
        have p101649 : 0 ≤ (z1).toInt ∧ (z1).toInt < 4 ∧ 2 ≤ (z4).toInt ∧ (z4).toInt ≤ 40 ∧ 0 ≤ (z2).toInt ∧ (z2).toInt < (z4).toInt ∧ 0 ≤ (z3).toInt ∧ (z3).toInt < (z4).toInt := by omega
        have e101650 := tq_addr li_1 z7
        try rw [Int.emod_eq_of_lt (show 0 ≤ (z7).toInt + 1 + 2147483648 by omega) (show (z7).toInt + 1 + 2147483648 < 4294967296 by omega)] at e101650
        have p101651 : 0 ≤ (z6).toInt ∧ (z6).toInt < (z4).toInt ∧ 0 ≤ (z7 + 1).toInt ∧ (z7 + 1).toInt ≤ (z4).toInt := by omega
        have p101652 : (z6).toInt = Z := by omega
        have p101653 : (z4).toInt = Y := by omega
        have p101654 : (z4).toInt - (z7 + 1).toInt < ((n : Nat) : Int) := by (omega)
        exact ih _ _ _ _ _ _ _ p101649 p101651 p101652 p101653 p101654
      · replace c101648 := q_nle c101648
        rw [li_0] at c101648
        have p101655 : 0 ≤ (z1).toInt ∧ (z1).toInt < 4 := by omega
        have p101656 : 0 ≤ (z6).toInt ∧ (z6).toInt < 40 := by omega
        have p101657 : 0 ≤ (z7).toInt ∧ (z7).toInt < 40 := by omega
        refine wq_X7_logged p101655 p101656 p101657 (fun r_8 => ?_)
        refine wq_X7_moved (fun r_10 q101658 => ?_)
        refine wq_X7_moved (fun r_12 q101659 => ?_)
        have p101660 : 1 ≤ (z4).toInt ∧ (z4).toInt ≤ 40 := by omega
        have p101661 : 0 ≤ (r_10).toInt ∧ (r_10).toInt < (z4).toInt := by omega
        have p101662 : 0 ≤ (r_12).toInt ∧ (r_12).toInt < (z4).toInt := by omega
        refine wq_X7_on p101660 p101661 p101662 (fun r_14 q101663 => ?_)
        have p101664 : 0 ≤ (z1).toInt ∧ (z1).toInt < 4 ∧ 2 ≤ (z4).toInt ∧ (z4).toInt ≤ 40 ∧ 0 ≤ (z2).toInt ∧ (z2).toInt < (z4).toInt ∧ 0 ≤ (z3).toInt ∧ (z3).toInt < (z4).toInt := by omega
        have e101665 := tq_addr li_1 z7
        try rw [Int.emod_eq_of_lt (show 0 ≤ (z7).toInt + 1 + 2147483648 by omega) (show (z7).toInt + 1 + 2147483648 < 4294967296 by omega)] at e101665
        have p101666 : 0 ≤ (z6).toInt ∧ (z6).toInt < (z4).toInt ∧ 0 ≤ (z7 + 1).toInt ∧ (z7 + 1).toInt ≤ (z4).toInt := by omega
        have p101667 : (z6).toInt = Z := by omega
        have p101668 : (z4).toInt = Y := by omega
        have p101669 : (z4).toInt - (z7 + 1).toInt < ((n : Nat) : Int) := by (omega)
        exact ih _ _ _ _ _ _ _ p101664 p101666 p101667 p101668 p101669
theorem wq_X7_journey_L13 {s0 : Md} {post : Int32 → Prop} {e88 : Int32 → Int32 → Int32 → Int32 → Int32 → Int32 → Prop} (ke88 : ∀ (z1 : Int32) (z2 : Int32) (z3 : Int32) (z4 : Int32) (z5 : Int32) (z6 : Int32), 0 ≤ (z1).toInt ∧ (z1).toInt < 4 ∧ 2 ≤ (z4).toInt ∧ (z4).toInt ≤ 40 ∧ 0 ≤ (z2).toInt ∧ (z2).toInt < (z4).toInt ∧ 0 ≤ (z3).toInt ∧ (z3).toInt < (z4).toInt → 0 ≤ (z6).toInt ∧ (z6).toInt ≤ (z4).toInt → e88 z1 z2 z3 z4 z5 z6) : ∀ (n : Nat) (z1 : Int32) (z2 : Int32) (z3 : Int32) (z4 : Int32) (z5 : Int32) (z6 : Int32), 0 ≤ (z1).toInt ∧ (z1).toInt < 4 ∧ 2 ≤ (z4).toInt ∧ (z4).toInt ≤ 40 ∧ 0 ≤ (z2).toInt ∧ (z2).toInt < (z4).toInt ∧ 0 ≤ (z3).toInt ∧ (z3).toInt < (z4).toInt → 0 ≤ (z6).toInt ∧ (z6).toInt ≤ (z4).toInt → (z4).toInt - (z6).toInt < (n : Int) → wp_X7_journey_L13 s0 post e88 n z1 z2 z3 z4 z5 z6 := by
  intro n
  induction n with
  | zero =>
    intro z1 z2 z3 z4 z5 z6 i101670 i101671 i101672
    exfalso
    omega
  | succ n ih =>
    intro z1 z2 z3 z4 z5 z6 i101670 i101671 i101672
    unfold wp_X7_journey_L13
    refine ⟨fun c101673 => ?_, fun c101674 => ?_⟩
    · replace c101673 := q_le c101673
      have p101675 : 0 ≤ (z1).toInt ∧ (z1).toInt < 4 ∧ 2 ≤ (z4).toInt ∧ (z4).toInt ≤ 40 ∧ 0 ≤ (z2).toInt ∧ (z2).toInt < (z4).toInt ∧ 0 ≤ (z3).toInt ∧ (z3).toInt < (z4).toInt := by omega
      have p101676 : 0 ≤ (z6).toInt ∧ (z6).toInt ≤ (z4).toInt := by omega
      exact ke88 _ _ _ _ _ _ p101675 p101676
    · replace c101674 := q_nle c101674
      have p101677 : 0 ≤ (z1).toInt ∧ (z1).toInt < 4 ∧ 2 ≤ (z4).toInt ∧ (z4).toInt ≤ 40 ∧ 0 ≤ (z2).toInt ∧ (z2).toInt < (z4).toInt ∧ 0 ≤ (z3).toInt ∧ (z3).toInt < (z4).toInt := by omega
      have p101678 : 0 ≤ (z6).toInt ∧ (z6).toInt < (z4).toInt ∧ 0 ≤ (0 : Int32).toInt ∧ (0 : Int32).toInt ≤ (z4).toInt := by (have := li_0; omega)
      have p101679 : (z6).toInt = ((z6).toInt) := by omega
      have p101680 : (z4).toInt = ((z4).toInt) := by omega
      obtain ⟨f101681, g101682⟩ := fu_e 50
      have p101683 : (z4).toInt - (0 : Int32).toInt < (f101681 : Int) := by (have := li_0; omega)
      refine ⟨f101681, wq_X7_journey_L23 (fun z1_101684 z2_101685 z3_101686 z4_101687 z5_101688 z6_101689 z7 q101690 q101691 q101692 q101693 => ?_) f101681 _ _ _ _ _ _ _ p101677 p101678 p101679 p101680 p101683⟩
      have p101694 : 0 ≤ (z1_101684).toInt ∧ (z1_101684).toInt < 4 ∧ 2 ≤ (z4_101687).toInt ∧ (z4_101687).toInt ≤ 40 ∧ 0 ≤ (z2_101685).toInt ∧ (z2_101685).toInt < (z4_101687).toInt ∧ 0 ≤ (z3_101686).toInt ∧ (z3_101686).toInt < (z4_101687).toInt := by omega
      have e101695 := tq_addr li_1 z6_101689
      try rw [Int.emod_eq_of_lt (show 0 ≤ (z6_101689).toInt + 1 + 2147483648 by omega) (show (z6_101689).toInt + 1 + 2147483648 < 4294967296 by omega)] at e101695
      have p101696 : 0 ≤ (z6_101689 + 1).toInt ∧ (z6_101689 + 1).toInt ≤ (z4_101687).toInt := by omega
      have p101697 : (z4_101687).toInt - (z6_101689 + 1).toInt < ((n : Nat) : Int) := by (omega)
      exact ih _ _ _ _ _ _ p101694 p101696 p101697
theorem wq_X7_journey {post : Int32 → Prop} {s0 : Md} {x1 : Int32} {x2 : Int32} {x3 : Int32} {N R W D : Int} (h101698 : mb (N) (R) (W) (D) s0) (h101699 : 0 ≤ (x1).toInt ∧ (x1).toInt < D) (h101700 : 0 ≤ (x2).toInt ∧ (x2).toInt < d_f ((s0.2.2.1 0)) (x1).toInt.toNat ∧ 0 ≤ (x3).toInt ∧ (x3).toInt < d_f ((s0.2.2.1 0)) (x1).toInt.toNat) (k : ∀ (r : Int32), post r) : wp_X7_journey post s0 x1 x2 x3 := by
  unfold wp_X7_journey
  have := h101698.1
  have := h101698.2.1
  have := h101698.2.2.1
  have := h101698.2.2.2.1
  have p101701 : 0 ≤ (x1).toInt ∧ (x1).toInt < 4 := by omega
  refine wq_X7_flapsOf h101698 p101701 (fun r_1 q101702 => ?_)
  have p101703 : 0 ≤ (x1).toInt ∧ (x1).toInt < 4 ∧ 2 ≤ (r_1).toInt ∧ (r_1).toInt ≤ 40 ∧ 0 ≤ (x2).toInt ∧ (x2).toInt < (r_1).toInt ∧ 0 ≤ (x3).toInt ∧ (x3).toInt < (r_1).toInt := by omega
  have p101704 : 0 ≤ (0 : Int32).toInt ∧ (0 : Int32).toInt ≤ (r_1).toInt := by (have := li_0; omega)
  obtain ⟨f101705, g101706⟩ := fu_e 50
  have p101707 : (r_1).toInt - (0 : Int32).toInt < (f101705 : Int) := by (have := li_0; omega)
  refine ⟨f101705, wq_X7_journey_L13 (fun z1 z2 z3 z4 z5 z6 q101708 q101709 => ?_) f101705 _ _ _ _ _ _ p101703 p101704 p101707⟩
  exact k _
theorem wq_X7_entries_L15 {s0 : Md} {post : Int32 → Prop} {e64 : Int32 → Int32 → Int32 → Int32 → Int32 → Prop} {Z : Int} (ke64 : ∀ (z1 : Int32) (z2 : Int32) (z3 : Int32) (z4 : Int32) (z5 : Int32), 0 ≤ (z1).toInt ∧ (z1).toInt < 4 ∧ 0 ≤ (z4).toInt ∧ (z4).toInt < 40 ∧ 0 ≤ (z5).toInt ∧ (z5).toInt ≤ 40 → (z4).toInt = Z → e64 z1 z2 z3 z4 z5) : ∀ (n : Nat) (z1 : Int32) (z2 : Int32) (z3 : Int32) (z4 : Int32) (z5 : Int32), 0 ≤ (z1).toInt ∧ (z1).toInt < 4 ∧ 0 ≤ (z4).toInt ∧ (z4).toInt < 40 ∧ 0 ≤ (z5).toInt ∧ (z5).toInt ≤ 40 → (z4).toInt = Z → 40 - (z5).toInt < (n : Int) → wp_X7_entries_L15 s0 post e64 n z1 z2 z3 z4 z5 := by
  intro n
  induction n with
  | zero =>
    intro z1 z2 z3 z4 z5 i101710 i101711 i101712
    exfalso
    omega
  | succ n ih =>
    intro z1 z2 z3 z4 z5 i101710 i101711 i101712
    unfold wp_X7_entries_L15
    refine ⟨fun c101713 => ?_, fun c101714 => ?_⟩
    · replace c101713 := q_le c101713
      rw [li_40] at c101713
      have p101715 : 0 ≤ (z1).toInt ∧ (z1).toInt < 4 ∧ 0 ≤ (z4).toInt ∧ (z4).toInt < 40 ∧ 0 ≤ (z5).toInt ∧ (z5).toInt ≤ 40 := by omega
      have p101716 : (z4).toInt = Z := by omega
      exact ke64 _ _ _ _ _ p101715 p101716
    · replace c101714 := q_nle c101714
      rw [li_40] at c101714
      refine ⟨fun c101717 => ?_, fun c101718 => ?_⟩
      · replace c101717 := q_eq c101717
        rw [li_0] at c101717
        have p101719 : 0 ≤ (z1).toInt ∧ (z1).toInt < 4 := by omega
        have p101720 : 0 ≤ (z4).toInt ∧ (z4).toInt < 40 := by omega
        have p101721 : 0 ≤ (z5).toInt ∧ (z5).toInt < 40 := by omega
        refine wq_X7_logged p101719 p101720 p101721 (fun r_4 => ?_)
        have e101722 := tq_addr li_1 z5
        try rw [Int.emod_eq_of_lt (show 0 ≤ (z5).toInt + 1 + 2147483648 by omega) (show (z5).toInt + 1 + 2147483648 < 4294967296 by omega)] at e101722
        have p101723 : 0 ≤ (z1).toInt ∧ (z1).toInt < 4 ∧ 0 ≤ (z4).toInt ∧ (z4).toInt < 40 ∧ 0 ≤ (z5 + 1).toInt ∧ (z5 + 1).toInt ≤ 40 := by omega
        have p101724 : (z4).toInt = Z := by omega
        have p101725 : 40 - (z5 + 1).toInt < ((n : Nat) : Int) := by (omega)
        exact ih _ _ _ _ _ p101723 p101724 p101725
      · replace c101718 := q_neq c101718
        rw [li_0] at c101718
        have p101726 : 0 ≤ (z1).toInt ∧ (z1).toInt < 4 := by omega
        have p101727 : 0 ≤ (z4).toInt ∧ (z4).toInt < 40 := by omega
        have p101728 : 0 ≤ (z5).toInt ∧ (z5).toInt < 40 := by omega
        refine wq_X7_logged p101726 p101727 p101728 (fun r_6 => ?_)
        refine ⟨fun c101729 => ?_, fun c101730 => ?_⟩
        · replace c101729 := q_le c101729
          rw [li_0] at c101729
          have e101731 := tq_addr li_1 z5
          try rw [Int.emod_eq_of_lt (show 0 ≤ (z5).toInt + 1 + 2147483648 by omega) (show (z5).toInt + 1 + 2147483648 < 4294967296 by omega)] at e101731
          have p101732 : 0 ≤ (z1).toInt ∧ (z1).toInt < 4 ∧ 0 ≤ (z4).toInt ∧ (z4).toInt < 40 ∧ 0 ≤ (z5 + 1).toInt ∧ (z5 + 1).toInt ≤ 40 := by omega
          have p101733 : (z4).toInt = Z := by omega
          have p101734 : 40 - (z5 + 1).toInt < ((n : Nat) : Int) := by (omega)
          exact ih _ _ _ _ _ p101732 p101733 p101734
        · replace c101730 := q_nle c101730
          rw [li_0] at c101730
          have e101735 := tq_addr li_1 z5
          try rw [Int.emod_eq_of_lt (show 0 ≤ (z5).toInt + 1 + 2147483648 by omega) (show (z5).toInt + 1 + 2147483648 < 4294967296 by omega)] at e101735
          have p101736 : 0 ≤ (z1).toInt ∧ (z1).toInt < 4 ∧ 0 ≤ (z4).toInt ∧ (z4).toInt < 40 ∧ 0 ≤ (z5 + 1).toInt ∧ (z5 + 1).toInt ≤ 40 := by omega
          have p101737 : (z4).toInt = Z := by omega
          have p101738 : 40 - (z5 + 1).toInt < ((n : Nat) : Int) := by (omega)
          exact ih _ _ _ _ _ p101736 p101737 p101738
theorem wq_X7_entries_L5 {s0 : Md} {post : Int32 → Prop} {e70 : Int32 → Int32 → Int32 → Int32 → Prop} (ke70 : ∀ (z1 : Int32) (z2 : Int32) (z3 : Int32) (z4 : Int32), 0 ≤ (z1).toInt ∧ (z1).toInt < 4 ∧ 0 ≤ (z4).toInt ∧ (z4).toInt ≤ 40 → e70 z1 z2 z3 z4) : ∀ (n : Nat) (z1 : Int32) (z2 : Int32) (z3 : Int32) (z4 : Int32), 0 ≤ (z1).toInt ∧ (z1).toInt < 4 ∧ 0 ≤ (z4).toInt ∧ (z4).toInt ≤ 40 → 40 - (z4).toInt < (n : Int) → wp_X7_entries_L5 s0 post e70 n z1 z2 z3 z4 := by
  intro n
  induction n with
  | zero =>
    intro z1 z2 z3 z4 i101739 i101740
    exfalso
    omega
  | succ n ih =>
    intro z1 z2 z3 z4 i101739 i101740
    unfold wp_X7_entries_L5
    refine ⟨fun c101741 => ?_, fun c101742 => ?_⟩
    · replace c101741 := q_le c101741
      rw [li_40] at c101741
      have p101743 : 0 ≤ (z1).toInt ∧ (z1).toInt < 4 ∧ 0 ≤ (z4).toInt ∧ (z4).toInt ≤ 40 := by omega
      exact ke70 _ _ _ _ p101743
    · replace c101742 := q_nle c101742
      rw [li_40] at c101742
      have p101744 : 0 ≤ (z1).toInt ∧ (z1).toInt < 4 ∧ 0 ≤ (z4).toInt ∧ (z4).toInt < 40 ∧ 0 ≤ (0 : Int32).toInt ∧ (0 : Int32).toInt ≤ 40 := by (have := li_0; omega)
      have p101745 : (z4).toInt = ((z4).toInt) := by omega
      obtain ⟨f101746, g101747⟩ := fu_e 50
      have p101748 : 40 - (0 : Int32).toInt < (f101746 : Int) := by (have := li_0; omega)
      refine ⟨f101746, wq_X7_entries_L15 (fun z1_101749 z2_101750 z3_101751 z4_101752 z5 q101753 q101754 => ?_) f101746 _ _ _ _ _ p101744 p101745 p101748⟩
      have e101755 := tq_addr li_1 z4_101752
      try rw [Int.emod_eq_of_lt (show 0 ≤ (z4_101752).toInt + 1 + 2147483648 by omega) (show (z4_101752).toInt + 1 + 2147483648 < 4294967296 by omega)] at e101755
      have p101756 : 0 ≤ (z1_101749).toInt ∧ (z1_101749).toInt < 4 ∧ 0 ≤ (z4_101752 + 1).toInt ∧ (z4_101752 + 1).toInt ≤ 40 := by omega
      have p101757 : 40 - (z4_101752 + 1).toInt < ((n : Nat) : Int) := by (omega)
      exact ih _ _ _ _ p101756 p101757
theorem wq_X7_entries {post : Int32 → Prop} {s0 : Md} {x1 : Int32} {x2 : Int32} (h101758 : 0 ≤ (x1).toInt ∧ (x1).toInt < 4) (k : ∀ (r : Int32), post r) : wp_X7_entries post s0 x1 x2 := by
  unfold wp_X7_entries
  have p101759 : 0 ≤ (x1).toInt ∧ (x1).toInt < 4 ∧ 0 ≤ (0 : Int32).toInt ∧ (0 : Int32).toInt ≤ 40 := by (have := li_0; omega)
  obtain ⟨f101760, g101761⟩ := fu_e 50
  have p101762 : 40 - (0 : Int32).toInt < (f101760 : Int) := by (have := li_0; omega)
  refine ⟨f101760, wq_X7_entries_L5 (fun z1 z2 z3 z4 q101763 => ?_) f101760 _ _ _ _ p101759 p101762⟩
  exact k _
theorem wq_X7_log {post : Int32 → Prop} {s0 : Md} {x1 : Int32} {x2 : Int32} {N R W D : Int} (h101764 : mb (N) (R) (W) (D) s0) (k : ∀ (r : Int32), post r) : wp_X7_log post s0 x1 x2 := by
  unfold wp_X7_log
  have := h101764.1
  have := h101764.2.1
  have := h101764.2.2.1
  have := h101764.2.2.2.1
  refine wq_X7_isDrum h101764 (fun r_1 q101765 => ?_)
  refine ⟨fun c101766 => ?_, fun c101767 => ?_⟩
  · replace c101766 := q_eq c101766
    rw [li_0] at c101766
    exact k _
  · replace c101767 := q_neq c101767
    rw [li_0] at c101767
    refine wq_X7_in (fun r_4 q101768 => ?_)
    try simp only [lj_0, lj_2] at q101768
    have := tq_64 x2
    refine ⟨fun c101769 => ?_, fun c101770 => ?_⟩
    · replace c101769 := q_neq c101769
      rw [li_0] at c101769
      refine ⟨fun c101771 => ?_, fun c101772 => ?_⟩
      · replace c101771 := q_neq c101771
        rw [li_0] at c101771
        refine ⟨fun c101773 => ?_, fun c101774 => ?_⟩
        · replace c101773 := q_neq c101773
          rw [li_2] at c101773
          have p101775 : 0 ≤ (x1).toInt ∧ (x1).toInt < 4 := by omega
          refine wq_X7_entries p101775 (fun r_9 => ?_)
          exact k _
        · replace c101774 := q_eq c101774
          rw [li_2] at c101774
          have p101776 : 0 ≤ (x1).toInt ∧ (x1).toInt < 4 := by omega
          refine wq_X7_entries p101776 (fun r_11 => ?_)
          exact k _
      · replace c101772 := q_eq c101772
        rw [li_0] at c101772
        have p101777 : 0 ≤ (x1).toInt ∧ (x1).toInt < D := by omega
        try have := rw_dk h101764.2.2.2.2.1 (show 0 ≤ (x1).toInt ∧ (x1).toInt < D by omega)
        have p101778 : 0 ≤ ((0 : Int32)).toInt ∧ ((0 : Int32)).toInt < d_f ((s0.2.2.1 0)) (x1).toInt.toNat ∧ 0 ≤ ((0 : Int32)).toInt ∧ ((0 : Int32)).toInt < d_f ((s0.2.2.1 0)) (x1).toInt.toNat := by (have := li_0; omega)
        refine wq_X7_journey h101764 p101777 p101778 (fun r_13 => ?_)
        exact k _
    · replace c101770 := q_eq c101770
      rw [li_0] at c101770
      exact k _
theorem wq_X7_often_L33 {s0 : Md} {post : Int32 → Prop} {e74 : Int32 → Int32 → Int32 → Int32 → Int32 → Prop} (ke74 : ∀ (z1 : Int32) (z2 : Int32) (z3 : Int32) (z4 : Int32) (z5 : Int32), 0 ≤ (z1).toInt ∧ (z1).toInt < 4 ∧ 0 ≤ (z2).toInt ∧ (z2).toInt < 40 ∧ 0 ≤ (z5).toInt ∧ (z5).toInt ≤ 40 → e74 z1 z2 z3 z4 z5) : ∀ (n : Nat) (z1 : Int32) (z2 : Int32) (z3 : Int32) (z4 : Int32) (z5 : Int32), 0 ≤ (z1).toInt ∧ (z1).toInt < 4 ∧ 0 ≤ (z2).toInt ∧ (z2).toInt < 40 ∧ 0 ≤ (z5).toInt ∧ (z5).toInt ≤ 40 → 40 - (z5).toInt < (n : Int) → wp_X7_often_L33 s0 post e74 n z1 z2 z3 z4 z5 := by
  intro n
  induction n with
  | zero =>
    intro z1 z2 z3 z4 z5 i101779 i101780
    exfalso
    omega
  | succ n ih =>
    intro z1 z2 z3 z4 z5 i101779 i101780
    unfold wp_X7_often_L33
    refine ⟨fun c101781 => ?_, fun c101782 => ?_⟩
    · replace c101781 := q_le c101781
      rw [li_40] at c101781
      have p101783 : 0 ≤ (z1).toInt ∧ (z1).toInt < 4 ∧ 0 ≤ (z2).toInt ∧ (z2).toInt < 40 ∧ 0 ≤ (z5).toInt ∧ (z5).toInt ≤ 40 := by omega
      exact ke74 _ _ _ _ _ p101783
    · replace c101782 := q_nle c101782
      rw [li_40] at c101782
      refine ⟨fun c101784 => ?_, fun c101785 => ?_⟩
      · replace c101784 := q_eq c101784
        rw [li_0] at c101784
        have p101786 : 0 ≤ (z1).toInt ∧ (z1).toInt < 4 := by omega
        have p101787 : 0 ≤ (z2).toInt ∧ (z2).toInt < 40 := by omega
        have p101788 : 0 ≤ (z5).toInt ∧ (z5).toInt < 40 := by omega
        refine wq_X7_logged p101786 p101787 p101788 (fun r_11 => ?_)
        have e101789 := tq_addr li_1 z5
        try rw [Int.emod_eq_of_lt (show 0 ≤ (z5).toInt + 1 + 2147483648 by omega) (show (z5).toInt + 1 + 2147483648 < 4294967296 by omega)] at e101789
        have p101790 : 0 ≤ (z1).toInt ∧ (z1).toInt < 4 ∧ 0 ≤ (z2).toInt ∧ (z2).toInt < 40 ∧ 0 ≤ (z5 + 1).toInt ∧ (z5 + 1).toInt ≤ 40 := by omega
        have p101791 : 40 - (z5 + 1).toInt < ((n : Nat) : Int) := by (omega)
        exact ih _ _ _ _ _ p101790 p101791
      · replace c101785 := q_neq c101785
        rw [li_0] at c101785
        have p101792 : 0 ≤ (z1).toInt ∧ (z1).toInt < 4 := by omega
        have p101793 : 0 ≤ (z5).toInt ∧ (z5).toInt < 40 := by omega
        have p101794 : 0 ≤ (z2).toInt ∧ (z2).toInt < 40 := by omega
        refine wq_X7_logged p101792 p101793 p101794 (fun r_13 => ?_)
        have e101795 := tq_addr li_1 z5
        try rw [Int.emod_eq_of_lt (show 0 ≤ (z5).toInt + 1 + 2147483648 by omega) (show (z5).toInt + 1 + 2147483648 < 4294967296 by omega)] at e101795
        have p101796 : 0 ≤ (z1).toInt ∧ (z1).toInt < 4 ∧ 0 ≤ (z2).toInt ∧ (z2).toInt < 40 ∧ 0 ≤ (z5 + 1).toInt ∧ (z5 + 1).toInt ≤ 40 := by omega
        have p101797 : 40 - (z5 + 1).toInt < ((n : Nat) : Int) := by (omega)
        exact ih _ _ _ _ _ p101796 p101797
theorem wq_X7_often {post : Int32 → Prop} {s0 : Md} {x1 : Int32} {x2 : Int32} {x3 : Int32} {N R W D : Int} (h101798 : mb (N) (R) (W) (D) s0) (k : ∀ (r : Int32), post r) : wp_X7_often post s0 x1 x2 x3 := by
  unfold wp_X7_often
  have := h101798.1
  have := h101798.2.1
  have := h101798.2.2.1
  have := h101798.2.2.2.1
  refine wq_X7_isDrum h101798 (fun r_1 q101799 => ?_)
  refine ⟨fun c101800 => ?_, fun c101801 => ?_⟩
  · replace c101800 := q_eq c101800
    rw [li_0] at c101800
    exact k _
  · replace c101801 := q_neq c101801
    rw [li_0] at c101801
    have p101802 : 0 ≤ (x1).toInt ∧ (x1).toInt < 4 := by omega
    refine wq_X7_flapsOf h101798 p101802 (fun r_4 q101803 => ?_)
    refine wq_X7_in (fun r_6 q101804 => ?_)
    try simp only [lj_0] at q101804
    have := tq_64 x2
    have e101805 := tq_subr li_1 r_4
    try rw [Int.emod_eq_of_lt (show 0 ≤ (r_4).toInt - 1 + 2147483648 by omega) (show (r_4).toInt - 1 + 2147483648 < 4294967296 by omega)] at e101805
    have := tq_64 (r_4 - 1)
    refine ⟨fun c101806 => ?_, fun c101807 => ?_⟩
    · replace c101806 := q_neq c101806
      rw [li_0] at c101806
      have p101808 : 0 ≤ (x1).toInt ∧ (x1).toInt < 4 ∧ 0 ≤ (x2).toInt ∧ (x2).toInt < 40 ∧ 0 ≤ (0 : Int32).toInt ∧ (0 : Int32).toInt ≤ 40 := by (have := li_0; omega)
      obtain ⟨f101809, g101810⟩ := fu_e 50
      have p101811 : 40 - (0 : Int32).toInt < (f101809 : Int) := by (have := li_0; omega)
      refine ⟨f101809, wq_X7_often_L33 (fun z1 z2 z3 z4 z5 q101812 => ?_) f101809 _ _ _ _ _ p101808 p101811⟩
      exact k _
    · replace c101807 := q_eq c101807
      rw [li_0] at c101807
      exact k _

theorem wq_X7_better_L57 {s0 : Md} {post : Int32 → Prop} {e104 : Int32 → Int32 → Int32 → Int32 → Int32 → Int32 → Int32 → Prop} {N R W D Z : Int} (h101813 : mb (N) (R) (W) (D) s0) (ke104 : ∀ (z1 : Int32) (z2 : Int32) (z3 : Int32) (z4 : Int32) (z5 : Int32) (z6 : Int32) (z7 : Int32), 0 ≤ (z1).toInt ∧ (z1).toInt < D → 0 ≤ (z6).toInt ∧ (z6).toInt < d_f ((s0.2.2.1 0)) (z1).toInt.toNat → 0 ≤ (z7).toInt ∧ (z7).toInt ≤ 41 → (z6).toInt = Z → e104 z1 z2 z3 z4 z5 z6 z7) : ∀ (n : Nat) (z1 : Int32) (z2 : Int32) (z3 : Int32) (z4 : Int32) (z5 : Int32) (z6 : Int32) (z7 : Int32), 0 ≤ (z1).toInt ∧ (z1).toInt < D → 0 ≤ (z6).toInt ∧ (z6).toInt < d_f ((s0.2.2.1 0)) (z1).toInt.toNat → 0 ≤ (z7).toInt ∧ (z7).toInt ≤ 41 → (z6).toInt = Z → 41 - (z7).toInt < (n : Int) → wp_X7_better_L57 s0 post e104 n z1 z2 z3 z4 z5 z6 z7 := by
  have := h101813.1
  have := h101813.2.1
  have := h101813.2.2.1
  have := h101813.2.2.2.1
  intro n
  induction n with
  | zero =>
    intro z1 z2 z3 z4 z5 z6 z7 i101814 i101815 i101816 i101817 i101818
    exfalso
    omega
  | succ n ih =>
    intro z1 z2 z3 z4 z5 z6 z7 i101814 i101815 i101816 i101817 i101818
    unfold wp_X7_better_L57
    have p101819 : 0 ≤ (z1).toInt ∧ (z1).toInt < 4 := by omega
    refine wq_X7_flapsOf h101813 p101819 (fun r_12 q101820 => ?_)
    refine ⟨fun c101821 => ?_, fun c101822 => ?_⟩
    · replace c101821 := q_le c101821
      have p101823 : 0 ≤ (z1).toInt ∧ (z1).toInt < D := by omega
      try have := rw_dk h101813.2.2.2.2.1 (show 0 ≤ (z1).toInt ∧ (z1).toInt < D by omega)
      have p101824 : 0 ≤ (z6).toInt ∧ (z6).toInt < d_f ((s0.2.2.1 0)) (z1).toInt.toNat := by omega
      have p101825 : 0 ≤ (z7).toInt ∧ (z7).toInt ≤ 41 := by omega
      have p101826 : (z6).toInt = Z := by omega
      exact ke104 _ _ _ _ _ _ _ p101823 p101824 p101825 p101826
    · replace c101822 := q_nle c101822
      have p101827 : 0 ≤ (z1).toInt ∧ (z1).toInt < D := by omega
      try have := rw_dk h101813.2.2.2.2.1 (show 0 ≤ (z1).toInt ∧ (z1).toInt < D by omega)
      have p101828 : 0 ≤ (z6).toInt ∧ (z6).toInt < d_f ((s0.2.2.1 0)) (z1).toInt.toNat ∧ 0 ≤ (z7).toInt ∧ (z7).toInt < d_f ((s0.2.2.1 0)) (z1).toInt.toNat := by omega
      refine wq_X7_journey h101813 p101827 p101828 (fun r_15 => ?_)
      refine ⟨fun c101829 => ?_, fun c101830 => ?_⟩
      · replace c101829 := q_lt c101829
        have p101831 : 0 ≤ (z1).toInt ∧ (z1).toInt < D := by omega
        have p101832 : 0 ≤ (z6).toInt ∧ (z6).toInt < d_f ((s0.2.2.1 0)) (z1).toInt.toNat := by omega
        have e101833 := tq_addr li_1 z7
        try rw [Int.emod_eq_of_lt (show 0 ≤ (z7).toInt + 1 + 2147483648 by omega) (show (z7).toInt + 1 + 2147483648 < 4294967296 by omega)] at e101833
        have p101834 : 0 ≤ (z7 + 1).toInt ∧ (z7 + 1).toInt ≤ 41 := by omega
        have p101835 : (z6).toInt = Z := by omega
        have p101836 : 41 - (z7 + 1).toInt < ((n : Nat) : Int) := by (omega)
        exact ih _ _ _ _ _ _ _ p101831 p101832 p101834 p101835 p101836
      · replace c101830 := q_nlt c101830
        have p101837 : 0 ≤ (z1).toInt ∧ (z1).toInt < D := by omega
        have p101838 : 0 ≤ (z6).toInt ∧ (z6).toInt < d_f ((s0.2.2.1 0)) (z1).toInt.toNat := by omega
        have e101839 := tq_addr li_1 z7
        try rw [Int.emod_eq_of_lt (show 0 ≤ (z7).toInt + 1 + 2147483648 by omega) (show (z7).toInt + 1 + 2147483648 < 4294967296 by omega)] at e101839
        have p101840 : 0 ≤ (z7 + 1).toInt ∧ (z7 + 1).toInt ≤ 41 := by omega
        have p101841 : (z6).toInt = Z := by omega
        have p101842 : 41 - (z7 + 1).toInt < ((n : Nat) : Int) := by (omega)
        exact ih _ _ _ _ _ _ _ p101837 p101838 p101840 p101841 p101842
theorem wq_X7_better_L41 {s0 : Md} {post : Int32 → Prop} {e110 : Int32 → Int32 → Int32 → Int32 → Int32 → Int32 → Prop} {N R W D : Int} (h101843 : mb (N) (R) (W) (D) s0) (ke110 : ∀ (z1 : Int32) (z2 : Int32) (z3 : Int32) (z4 : Int32) (z5 : Int32) (z6 : Int32), 0 ≤ (z1).toInt ∧ (z1).toInt < D → 1 ≤ (z6).toInt ∧ (z6).toInt ≤ 41 → e110 z1 z2 z3 z4 z5 z6) : ∀ (n : Nat) (z1 : Int32) (z2 : Int32) (z3 : Int32) (z4 : Int32) (z5 : Int32) (z6 : Int32), 0 ≤ (z1).toInt ∧ (z1).toInt < D → 1 ≤ (z6).toInt ∧ (z6).toInt ≤ 41 → 41 - (z6).toInt < (n : Int) → wp_X7_better_L41 s0 post e110 n z1 z2 z3 z4 z5 z6 := by
  have := h101843.1
  have := h101843.2.1
  have := h101843.2.2.1
  have := h101843.2.2.2.1
  intro n
  induction n with
  | zero =>
    intro z1 z2 z3 z4 z5 z6 i101844 i101845 i101846
    exfalso
    omega
  | succ n ih =>
    intro z1 z2 z3 z4 z5 z6 i101844 i101845 i101846
    unfold wp_X7_better_L41
    have p101847 : 0 ≤ (z1).toInt ∧ (z1).toInt < 4 := by omega
    refine wq_X7_flapsOf h101843 p101847 (fun r_9 q101848 => ?_)
    refine ⟨fun c101849 => ?_, fun c101850 => ?_⟩
    · replace c101849 := q_le c101849
      have p101851 : 0 ≤ (z1).toInt ∧ (z1).toInt < D := by omega
      have p101852 : 1 ≤ (z6).toInt ∧ (z6).toInt ≤ 41 := by omega
      exact ke110 _ _ _ _ _ _ p101851 p101852
    · replace c101850 := q_nle c101850
      have p101853 : 0 ≤ (z1).toInt ∧ (z1).toInt < D := by omega
      try have := rw_dk h101843.2.2.2.2.1 (show 0 ≤ (z1).toInt ∧ (z1).toInt < D by omega)
      have p101854 : 0 ≤ (z6).toInt ∧ (z6).toInt < d_f ((s0.2.2.1 0)) (z1).toInt.toNat := by omega
      have e101855 := tq_addr li_1 z6
      try rw [Int.emod_eq_of_lt (show 0 ≤ (z6).toInt + 1 + 2147483648 by omega) (show (z6).toInt + 1 + 2147483648 < 4294967296 by omega)] at e101855
      have p101856 : 0 ≤ (z6 + 1).toInt ∧ (z6 + 1).toInt ≤ 41 := by omega
      have p101857 : (z6).toInt = ((z6).toInt) := by omega
      obtain ⟨f101858, g101859⟩ := fu_e 50
      have p101860 : 41 - (z6 + 1).toInt < (f101858 : Int) := by (omega)
      refine ⟨f101858, wq_X7_better_L57 h101843 (fun z1_101861 z2_101862 z3_101863 z4_101864 z5_101865 z6_101866 z7 q101867 q101868 q101869 q101870 => ?_) f101858 _ _ _ _ _ _ _ p101853 p101854 p101856 p101857 p101860⟩
      have p101871 : 0 ≤ (z1_101861).toInt ∧ (z1_101861).toInt < D := by omega
      have e101872 := tq_addr li_1 z6_101866
      try rw [Int.emod_eq_of_lt (show 0 ≤ (z6_101866).toInt + 1 + 2147483648 by omega) (show (z6_101866).toInt + 1 + 2147483648 < 4294967296 by omega)] at e101872
      have p101873 : 1 ≤ (z6_101866 + 1).toInt ∧ (z6_101866 + 1).toInt ≤ 41 := by omega
      have p101874 : 41 - (z6_101866 + 1).toInt < ((n : Nat) : Int) := by (omega)
      exact ih _ _ _ _ _ _ p101871 p101873 p101874
theorem wq_X7_better {post : Int32 → Prop} {s0 : Md} {x1 : Int32} {x2 : Int32} {N R W D : Int} (h101875 : mb (N) (R) (W) (D) s0) (k : ∀ (r : Int32), post r) : wp_X7_better post s0 x1 x2 := by
  unfold wp_X7_better
  have := h101875.1
  have := h101875.2.1
  have := h101875.2.2.1
  have := h101875.2.2.2.1
  refine wq_X7_isDrum h101875 (fun r_1 q101876 => ?_)
  refine ⟨fun c101877 => ?_, fun c101878 => ?_⟩
  · replace c101877 := q_eq c101877
    rw [li_0] at c101877
    exact k _
  · replace c101878 := q_neq c101878
    rw [li_0] at c101878
    refine wq_X7_in (fun r_4 q101879 => ?_)
    try simp only [lj_0, lj_2] at q101879
    have := tq_64 x2
    refine ⟨fun c101880 => ?_, fun c101881 => ?_⟩
    · replace c101880 := q_neq c101880
      rw [li_0] at c101880
      have p101882 : 0 ≤ (x1).toInt ∧ (x1).toInt < D := by omega
      try have := rw_dk h101875.2.2.2.2.1 (show 0 ≤ (x1).toInt ∧ (x1).toInt < D by omega)
      have p101883 : 0 ≤ ((0 : Int32)).toInt ∧ ((0 : Int32)).toInt < d_f ((s0.2.2.1 0)) (x1).toInt.toNat ∧ 0 ≤ ((0 : Int32)).toInt ∧ ((0 : Int32)).toInt < d_f ((s0.2.2.1 0)) (x1).toInt.toNat := by (have := li_0; omega)
      refine wq_X7_journey h101875 p101882 p101883 (fun r_7 => ?_)
      have p101884 : 0 ≤ (x1).toInt ∧ (x1).toInt < D := by omega
      have p101885 : 1 ≤ (1 : Int32).toInt ∧ (1 : Int32).toInt ≤ 41 := by (have := li_1; omega)
      obtain ⟨f101886, g101887⟩ := fu_e 50
      have p101888 : 41 - (1 : Int32).toInt < (f101886 : Int) := by (have := li_1; omega)
      refine ⟨f101886, wq_X7_better_L41 h101875 (fun z1 z2 z3 z4 z5 z6 q101889 q101890 => ?_) f101886 _ _ _ _ _ _ p101884 p101885 p101888⟩
      refine ⟨fun c101891 => ?_, fun c101892 => ?_⟩
      · replace c101891 := q_neq c101891
        rw [li_m2] at c101891
        refine ⟨fun c101893 => ?_, fun c101894 => ?_⟩
        · replace c101893 := q_neq c101893
          rw [li_0] at c101893
          refine ⟨fun c101895 => ?_, fun c101896 => ?_⟩
          · replace c101895 := q_neq c101895
            rw [li_1] at c101895
            exact k _
          · replace c101896 := q_eq c101896
            rw [li_1] at c101896
            exact k _
        · replace c101894 := q_eq c101894
          rw [li_0] at c101894
          exact k _
      · replace c101892 := q_eq c101892
        rw [li_m2] at c101892
        exact k _
    · replace c101881 := q_eq c101881
      rw [li_0] at c101881
      exact k _
theorem wq_X7_farthest_L29 {s0 : Md} {post : Int32 → Prop} {e101 : Int32 → Int32 → Int32 → Int32 → Int32 → Prop} {N R W D : Int} (h101897 : mb (N) (R) (W) (D) s0) (h101898 : 0 < D) (ke101 : ∀ (z1 : Int32) (z2 : Int32) (z3 : Int32) (z4 : Int32) (z5 : Int32), 0 ≤ (z1).toInt ∧ (z1).toInt < 40 → 32 ≤ (z5).toInt ∧ (z5).toInt ≤ 127 → e101 z1 z2 z3 z4 z5) : ∀ (n : Nat) (z1 : Int32) (z2 : Int32) (z3 : Int32) (z4 : Int32) (z5 : Int32), 0 ≤ (z1).toInt ∧ (z1).toInt < 40 → 32 ≤ (z5).toInt ∧ (z5).toInt ≤ 127 → 127 - (z5).toInt < (n : Int) → wp_X7_farthest_L29 s0 post e101 n z1 z2 z3 z4 z5 := by
  have := h101897.1
  have := h101897.2.1
  have := h101897.2.2.1
  have := h101897.2.2.2.1
  intro n
  induction n with
  | zero =>
    intro z1 z2 z3 z4 z5 i101899 i101900 i101901
    exfalso
    omega
  | succ n ih =>
    intro z1 z2 z3 z4 z5 i101899 i101900 i101901
    unfold wp_X7_farthest_L29
    refine ⟨fun c101902 => ?_, fun c101903 => ?_⟩
    · replace c101902 := q_le c101902
      rw [li_127] at c101902
      have p101904 : 0 ≤ (z1).toInt ∧ (z1).toInt < 40 := by omega
      have p101905 : 32 ≤ (z5).toInt ∧ (z5).toInt ≤ 127 := by omega
      exact ke101 _ _ _ _ _ p101904 p101905
    · replace c101903 := q_nle c101903
      rw [li_127] at c101903
      have p101906 : 0 ≤ (z1).toInt ∧ (z1).toInt < 40 := by omega
      have p101907 : 0 < D := by omega
      refine wq_X7_flapFor h101897 p101906 p101907 (fun r_8 q101908 => ?_)
      refine ⟨fun c101909 => ?_, fun c101910 => ?_⟩
      · replace c101909 := q_eq c101909
        rw [li_m1] at c101909
        have p101911 : 0 ≤ (z1).toInt ∧ (z1).toInt < 40 := by omega
        have e101912 := tq_addr li_1 z5
        try rw [Int.emod_eq_of_lt (show 0 ≤ (z5).toInt + 1 + 2147483648 by omega) (show (z5).toInt + 1 + 2147483648 < 4294967296 by omega)] at e101912
        have p101913 : 32 ≤ (z5 + 1).toInt ∧ (z5 + 1).toInt ≤ 127 := by omega
        have p101914 : 127 - (z5 + 1).toInt < ((n : Nat) : Int) := by (omega)
        exact ih _ _ _ _ _ p101911 p101913 p101914
      · replace c101910 := q_neq c101910
        rw [li_m1] at c101910
        have p101915 : 0 ≤ (z1).toInt ∧ (z1).toInt < 40 := by omega
        refine wq_X7_of_2 h101897 p101915 (fun r_11 q101916 q101917 => ?_)
        have p101918 : 0 ≤ (z1).toInt ∧ (z1).toInt < 40 := by omega
        refine wq_X7_flaps h101897 p101918 (fun r_13 q101919 => ?_)
        have p101920 : 1 ≤ (r_13).toInt ∧ (r_13).toInt ≤ 40 := by omega
        have p101921 : 0 ≤ (r_11).toInt ∧ (r_11).toInt < (r_13).toInt := by omega
        have p101922 : 0 ≤ (r_8).toInt ∧ (r_8).toInt < (r_13).toInt := by omega
        refine wq_X7_on p101920 p101921 p101922 (fun r_15 q101923 => ?_)
        refine ⟨fun c101924 => ?_, fun c101925 => ?_⟩
        · replace c101924 := q_lt c101924
          have p101926 : 0 ≤ (z1).toInt ∧ (z1).toInt < 40 := by omega
          refine wq_X7_of_2 h101897 p101926 (fun r_18 q101927 q101928 => ?_)
          have p101929 : 0 ≤ (z1).toInt ∧ (z1).toInt < 40 := by omega
          refine wq_X7_flaps h101897 p101929 (fun r_20 q101930 => ?_)
          have p101931 : 1 ≤ (r_20).toInt ∧ (r_20).toInt ≤ 40 := by omega
          have p101932 : 0 ≤ (r_18).toInt ∧ (r_18).toInt < (r_20).toInt := by omega
          have p101933 : 0 ≤ (r_8).toInt ∧ (r_8).toInt < (r_20).toInt := by omega
          refine wq_X7_on p101931 p101932 p101933 (fun r_22 q101934 => ?_)
          have p101935 : 0 ≤ (z1).toInt ∧ (z1).toInt < 40 := by omega
          have e101936 := tq_addr li_1 z5
          try rw [Int.emod_eq_of_lt (show 0 ≤ (z5).toInt + 1 + 2147483648 by omega) (show (z5).toInt + 1 + 2147483648 < 4294967296 by omega)] at e101936
          have p101937 : 32 ≤ (z5 + 1).toInt ∧ (z5 + 1).toInt ≤ 127 := by omega
          have p101938 : 127 - (z5 + 1).toInt < ((n : Nat) : Int) := by (omega)
          exact ih _ _ _ _ _ p101935 p101937 p101938
        · replace c101925 := q_nlt c101925
          have p101939 : 0 ≤ (z1).toInt ∧ (z1).toInt < 40 := by omega
          have e101940 := tq_addr li_1 z5
          try rw [Int.emod_eq_of_lt (show 0 ≤ (z5).toInt + 1 + 2147483648 by omega) (show (z5).toInt + 1 + 2147483648 < 4294967296 by omega)] at e101940
          have p101941 : 32 ≤ (z5 + 1).toInt ∧ (z5 + 1).toInt ≤ 127 := by omega
          have p101942 : 127 - (z5 + 1).toInt < ((n : Nat) : Int) := by (omega)
          exact ih _ _ _ _ _ p101939 p101941 p101942
theorem wq_X7_farthest {post : Int32 → Prop} {s0 : Md} {x1 : Int32} {x2 : Int32} {N R W D : Int} (h101943 : mb (N) (R) (W) (D) s0) (h101944 : R ≤ 0 ∨ 0 < D) (k : ∀ (r : Int32), post r) : wp_X7_farthest post s0 x1 x2 := by
  unfold wp_X7_farthest
  have := h101943.1
  have := h101943.2.1
  have := h101943.2.2.1
  have := h101943.2.2.2.1
  refine wq_X7_isCell h101943 (fun r_1 q101945 => ?_)
  refine ⟨fun c101946 => ?_, fun c101947 => ?_⟩
  · replace c101946 := q_eq c101946
    rw [li_0] at c101946
    exact k _
  · replace c101947 := q_neq c101947
    rw [li_0] at c101947
    refine wq_X7_in (fun r_4 q101948 => ?_)
    try simp only [lj_0, lj_1] at q101948
    have := tq_64 x2
    refine ⟨fun c101949 => ?_, fun c101950 => ?_⟩
    · replace c101949 := q_neq c101949
      rw [li_0] at c101949
      have p101951 : 0 < D := by omega
      have p101952 : 0 ≤ (x1).toInt ∧ (x1).toInt < 40 := by omega
      have p101953 : 32 ≤ (32 : Int32).toInt ∧ (32 : Int32).toInt ≤ 127 := by (have := li_32; omega)
      obtain ⟨f101954, g101955⟩ := fu_e 200
      have p101956 : 127 - (32 : Int32).toInt < (f101954 : Int) := by (have := li_32; omega)
      refine ⟨f101954, wq_X7_farthest_L29 h101943 p101951 (fun z1 z2 z3 z4 z5 q101957 q101958 => ?_) f101954 _ _ _ _ _ p101952 p101953 p101956⟩
      refine ⟨fun c101959 => ?_, fun c101960 => ?_⟩
      · replace c101959 := q_neq c101959
        rw [li_0] at c101959
        exact k _
      · replace c101960 := q_eq c101960
        rw [li_0] at c101960
        exact k _
    · replace c101950 := q_eq c101950
      rw [li_0] at c101950
      exact k _
theorem wq_X7_hasElsewhere_L2 {s0 : Md} {post : Int32 → Prop} {e32 : Int32 → Int32 → Int32 → Prop} {N R W D : Int} (h101961 : mb (N) (R) (W) (D) s0) (ke32 : ∀ (z1 : Int32) (z2 : Int32) (z3 : Int32), e32 z1 z2 z3) (k : ∀ (r : Int32), (r).toInt = 0 ∨ (r).toInt = 1 → post r) : ∀ (n : Nat) (z1 : Int32) (z2 : Int32) (z3 : Int32), 0 ≤ (z3).toInt ∧ (z3).toInt ≤ 4 → 4 - (z3).toInt < (n : Int) → wp_X7_hasElsewhere_L2 s0 post e32 n z1 z2 z3 := by
  have := h101961.1
  have := h101961.2.1
  have := h101961.2.2.1
  have := h101961.2.2.2.1
  intro n
  induction n with
  | zero =>
    intro z1 z2 z3 i101962 i101963
    exfalso
    omega
  | succ n ih =>
    intro z1 z2 z3 i101962 i101963
    unfold wp_X7_hasElsewhere_L2
    refine wq_X7_drums h101961 (fun r_1 q101964 => ?_)
    refine ⟨fun c101965 => ?_, fun c101966 => ?_⟩
    · replace c101965 := q_le c101965
      exact ke32 _ _ _
    · replace c101966 := q_nle c101966
      refine ⟨fun c101967 => ?_, fun c101968 => ?_⟩
      · replace c101967 := q_eq c101967
        have e101969 := tq_addr li_1 z3
        try rw [Int.emod_eq_of_lt (show 0 ≤ (z3).toInt + 1 + 2147483648 by omega) (show (z3).toInt + 1 + 2147483648 < 4294967296 by omega)] at e101969
        have p101970 : 0 ≤ (z3 + 1).toInt ∧ (z3 + 1).toInt ≤ 4 := by omega
        have p101971 : 4 - (z3 + 1).toInt < ((n : Nat) : Int) := by (omega)
        exact ih _ _ _ p101970 p101971
      · replace c101968 := q_neq c101968
        have p101972 : 0 ≤ (z3).toInt ∧ (z3).toInt < D := by omega
        refine wq_X7_manyWith h101961 p101972 (fun r_5 => ?_)
        refine ⟨fun c101973 => ?_, fun c101974 => ?_⟩
        · replace c101973 := q_le c101973
          rw [li_0] at c101973
          have e101975 := tq_addr li_1 z3
          try rw [Int.emod_eq_of_lt (show 0 ≤ (z3).toInt + 1 + 2147483648 by omega) (show (z3).toInt + 1 + 2147483648 < 4294967296 by omega)] at e101975
          have p101976 : 0 ≤ (z3 + 1).toInt ∧ (z3 + 1).toInt ≤ 4 := by omega
          have p101977 : 4 - (z3 + 1).toInt < ((n : Nat) : Int) := by (omega)
          exact ih _ _ _ p101976 p101977
        · replace c101974 := q_nle c101974
          rw [li_0] at c101974
          have p101978 : (1 : Int32).toInt = 0 ∨ (1 : Int32).toInt = 1 := by (have := li_1; omega)
          exact k _ p101978
theorem wq_X7_hasElsewhere {post : Int32 → Prop} {s0 : Md} {x1 : Int32} {x2 : Int32} {N R W D : Int} (h101979 : mb (N) (R) (W) (D) s0) (k : ∀ (r : Int32), (r).toInt = 0 ∨ (r).toInt = 1 → post r) : wp_X7_hasElsewhere post s0 x1 x2 := by
  unfold wp_X7_hasElsewhere
  have := h101979.1
  have := h101979.2.1
  have := h101979.2.2.1
  have := h101979.2.2.2.1
  have p101980 : 0 ≤ (0 : Int32).toInt ∧ (0 : Int32).toInt ≤ 4 := by (have := li_0; omega)
  obtain ⟨f101981, g101982⟩ := fu_e 10
  have p101983 : 4 - (0 : Int32).toInt < (f101981 : Int) := by (have := li_0; omega)
  refine ⟨f101981, wq_X7_hasElsewhere_L2 h101979 (fun z1 z2 z3 => ?_) k f101981 _ _ _ p101980 p101983⟩
  have p101984 : (0 : Int32).toInt = 0 ∨ (0 : Int32).toInt = 1 := by (have := li_0; omega)
  exact k _ p101984
theorem wq_X7_lacks_L26 {s0 : Md} {post : Int32 → Prop} {e117 : Int32 → Int32 → Int32 → Int32 → Prop} {N R W D : Int} (h101985 : mb (N) (R) (W) (D) s0) (h101986 : 0 < D) (ke117 : ∀ (z1 : Int32) (z2 : Int32) (z3 : Int32) (z4 : Int32), 0 ≤ (z1).toInt ∧ (z1).toInt < 40 → 32 ≤ (z4).toInt ∧ (z4).toInt ≤ 127 → e117 z1 z2 z3 z4) : ∀ (n : Nat) (z1 : Int32) (z2 : Int32) (z3 : Int32) (z4 : Int32), 0 ≤ (z1).toInt ∧ (z1).toInt < 40 → 32 ≤ (z4).toInt ∧ (z4).toInt ≤ 127 → 127 - (z4).toInt < (n : Int) → wp_X7_lacks_L26 s0 post e117 n z1 z2 z3 z4 := by
  have := h101985.1
  have := h101985.2.1
  have := h101985.2.2.1
  have := h101985.2.2.2.1
  intro n
  induction n with
  | zero =>
    intro z1 z2 z3 z4 i101987 i101988 i101989
    exfalso
    omega
  | succ n ih =>
    intro z1 z2 z3 z4 i101987 i101988 i101989
    unfold wp_X7_lacks_L26
    refine ⟨fun c101990 => ?_, fun c101991 => ?_⟩
    · replace c101990 := q_le c101990
      rw [li_127] at c101990
      have p101992 : 0 ≤ (z1).toInt ∧ (z1).toInt < 40 := by omega
      have p101993 : 32 ≤ (z4).toInt ∧ (z4).toInt ≤ 127 := by omega
      exact ke117 _ _ _ _ p101992 p101993
    · replace c101991 := q_nle c101991
      rw [li_127] at c101991
      have p101994 : 0 ≤ (z1).toInt ∧ (z1).toInt < 40 := by omega
      refine wq_X7_of_0 h101985 p101994 (fun r_8 q101995 q101996 => ?_)
      have p101997 : 0 ≤ (r_8).toInt ∧ (r_8).toInt < D := by omega
      refine wq_X7_manyWith h101985 p101997 (fun r_10 => ?_)
      refine ⟨fun c101998 => ?_, fun c101999 => ?_⟩
      · replace c101998 := q_le c101998
        rw [li_0] at c101998
        refine ⟨fun c102000 => ?_, fun c102001 => ?_⟩
        · replace c102000 := q_neq c102000
          rw [li_0] at c102000
          have p102002 : 0 ≤ (z1).toInt ∧ (z1).toInt < 40 := by omega
          refine wq_X7_of_0 h101985 p102002 (fun r_14 q102003 q102004 => ?_)
          refine wq_X7_hasElsewhere h101985 (fun r_16 q102005 => ?_)
          refine ⟨fun c102006 => ?_, fun c102007 => ?_⟩
          · replace c102006 := q_eq c102006
            rw [li_0] at c102006
            have p102008 : 0 ≤ (z1).toInt ∧ (z1).toInt < 40 := by omega
            have e102009 := tq_addr li_1 z4
            try rw [Int.emod_eq_of_lt (show 0 ≤ (z4).toInt + 1 + 2147483648 by omega) (show (z4).toInt + 1 + 2147483648 < 4294967296 by omega)] at e102009
            have p102010 : 32 ≤ (z4 + 1).toInt ∧ (z4 + 1).toInt ≤ 127 := by omega
            have p102011 : 127 - (z4 + 1).toInt < ((n : Nat) : Int) := by (omega)
            exact ih _ _ _ _ p102008 p102010 p102011
          · replace c102007 := q_neq c102007
            rw [li_0] at c102007
            have p102012 : 0 ≤ (z1).toInt ∧ (z1).toInt < 40 := by omega
            have e102013 := tq_addr li_1 z4
            try rw [Int.emod_eq_of_lt (show 0 ≤ (z4).toInt + 1 + 2147483648 by omega) (show (z4).toInt + 1 + 2147483648 < 4294967296 by omega)] at e102013
            have p102014 : 32 ≤ (z4 + 1).toInt ∧ (z4 + 1).toInt ≤ 127 := by omega
            have p102015 : 127 - (z4 + 1).toInt < ((n : Nat) : Int) := by (omega)
            exact ih _ _ _ _ p102012 p102014 p102015
        · replace c102001 := q_eq c102001
          rw [li_0] at c102001
          have p102016 : 0 ≤ (z1).toInt ∧ (z1).toInt < 40 := by omega
          have e102017 := tq_addr li_1 z4
          try rw [Int.emod_eq_of_lt (show 0 ≤ (z4).toInt + 1 + 2147483648 by omega) (show (z4).toInt + 1 + 2147483648 < 4294967296 by omega)] at e102017
          have p102018 : 32 ≤ (z4 + 1).toInt ∧ (z4 + 1).toInt ≤ 127 := by omega
          have p102019 : 127 - (z4 + 1).toInt < ((n : Nat) : Int) := by (omega)
          exact ih _ _ _ _ p102016 p102018 p102019
      · replace c101999 := q_nle c101999
        rw [li_0] at c101999
        refine ⟨fun c102020 => ?_, fun c102021 => ?_⟩
        · replace c102020 := q_neq c102020
          rw [li_0] at c102020
          have p102022 : 0 ≤ (z1).toInt ∧ (z1).toInt < 40 := by omega
          have e102023 := tq_addr li_1 z4
          try rw [Int.emod_eq_of_lt (show 0 ≤ (z4).toInt + 1 + 2147483648 by omega) (show (z4).toInt + 1 + 2147483648 < 4294967296 by omega)] at e102023
          have p102024 : 32 ≤ (z4 + 1).toInt ∧ (z4 + 1).toInt ≤ 127 := by omega
          have p102025 : 127 - (z4 + 1).toInt < ((n : Nat) : Int) := by (omega)
          exact ih _ _ _ _ p102022 p102024 p102025
        · replace c102021 := q_eq c102021
          rw [li_0] at c102021
          have p102026 : 0 ≤ (z1).toInt ∧ (z1).toInt < 40 := by omega
          have p102027 : 0 < D := by omega
          refine wq_X7_flapFor h101985 p102026 p102027 (fun r_20 q102028 => ?_)
          refine ⟨fun c102029 => ?_, fun c102030 => ?_⟩
          · replace c102029 := q_neq c102029
            rw [li_m1] at c102029
            have p102031 : 0 ≤ (z1).toInt ∧ (z1).toInt < 40 := by omega
            have e102032 := tq_addr li_1 z4
            try rw [Int.emod_eq_of_lt (show 0 ≤ (z4).toInt + 1 + 2147483648 by omega) (show (z4).toInt + 1 + 2147483648 < 4294967296 by omega)] at e102032
            have p102033 : 32 ≤ (z4 + 1).toInt ∧ (z4 + 1).toInt ≤ 127 := by omega
            have p102034 : 127 - (z4 + 1).toInt < ((n : Nat) : Int) := by (omega)
            exact ih _ _ _ _ p102031 p102033 p102034
          · replace c102030 := q_eq c102030
            rw [li_m1] at c102030
            have p102035 : 0 ≤ (z1).toInt ∧ (z1).toInt < 40 := by omega
            have e102036 := tq_addr li_1 z4
            try rw [Int.emod_eq_of_lt (show 0 ≤ (z4).toInt + 1 + 2147483648 by omega) (show (z4).toInt + 1 + 2147483648 < 4294967296 by omega)] at e102036
            have p102037 : 32 ≤ (z4 + 1).toInt ∧ (z4 + 1).toInt ≤ 127 := by omega
            have p102038 : 127 - (z4 + 1).toInt < ((n : Nat) : Int) := by (omega)
            exact ih _ _ _ _ p102035 p102037 p102038
theorem wq_X7_lacks {post : Int32 → Prop} {s0 : Md} {x1 : Int32} {x2 : Int32} {N R W D : Int} (h102039 : mb (N) (R) (W) (D) s0) (h102040 : R ≤ 0 ∨ 0 < D) (k : ∀ (r : Int32), post r) : wp_X7_lacks post s0 x1 x2 := by
  unfold wp_X7_lacks
  have := h102039.1
  have := h102039.2.1
  have := h102039.2.2.1
  have := h102039.2.2.2.1
  refine wq_X7_isCell h102039 (fun r_1 q102041 => ?_)
  refine ⟨fun c102042 => ?_, fun c102043 => ?_⟩
  · replace c102042 := q_eq c102042
    rw [li_0] at c102042
    exact k _
  · replace c102043 := q_neq c102043
    rw [li_0] at c102043
    refine wq_X7_in (fun r_4 q102044 => ?_)
    try simp only [lj_0, lj_1] at q102044
    have := tq_64 x2
    refine ⟨fun c102045 => ?_, fun c102046 => ?_⟩
    · replace c102045 := q_neq c102045
      rw [li_0] at c102045
      have p102047 : 0 < D := by omega
      have p102048 : 0 ≤ (x1).toInt ∧ (x1).toInt < 40 := by omega
      have p102049 : 32 ≤ (32 : Int32).toInt ∧ (32 : Int32).toInt ≤ 127 := by (have := li_32; omega)
      obtain ⟨f102050, g102051⟩ := fu_e 200
      have p102052 : 127 - (32 : Int32).toInt < (f102050 : Int) := by (have := li_32; omega)
      refine ⟨f102050, wq_X7_lacks_L26 h102039 p102047 (fun z1 z2 z3 z4 q102053 q102054 => ?_) f102050 _ _ _ _ p102048 p102049 p102052⟩
      exact k _
    · replace c102046 := q_eq c102046
      rw [li_0] at c102046
      exact k _
theorem wq_X7_usual_L29 {s0 : Md} {post : Int32 → Prop} {e74 : Int32 → Int32 → Int32 → Int32 → Int32 → Prop} {N R W D : Int} (h102055 : mb (N) (R) (W) (D) s0) (ke74 : ∀ (z1 : Int32) (z2 : Int32) (z3 : Int32) (z4 : Int32) (z5 : Int32), 0 ≤ (z1).toInt ∧ (z1).toInt < D → 0 ≤ (z5).toInt ∧ (z5).toInt ≤ 40 → e74 z1 z2 z3 z4 z5) : ∀ (n : Nat) (z1 : Int32) (z2 : Int32) (z3 : Int32) (z4 : Int32) (z5 : Int32), 0 ≤ (z1).toInt ∧ (z1).toInt < D → 0 ≤ (z5).toInt ∧ (z5).toInt ≤ 40 → 40 - (z5).toInt < (n : Int) → wp_X7_usual_L29 s0 post e74 n z1 z2 z3 z4 z5 := by
  have := h102055.1
  have := h102055.2.1
  have := h102055.2.2.1
  have := h102055.2.2.2.1
  intro n
  induction n with
  | zero =>
    intro z1 z2 z3 z4 z5 i102056 i102057 i102058
    exfalso
    omega
  | succ n ih =>
    intro z1 z2 z3 z4 z5 i102056 i102057 i102058
    unfold wp_X7_usual_L29
    have p102059 : 0 ≤ (z1).toInt ∧ (z1).toInt < 4 := by omega
    refine wq_X7_flapsOf h102055 p102059 (fun r_7 q102060 => ?_)
    refine ⟨fun c102061 => ?_, fun c102062 => ?_⟩
    · replace c102061 := q_le c102061
      have p102063 : 0 ≤ (z1).toInt ∧ (z1).toInt < D := by omega
      have p102064 : 0 ≤ (z5).toInt ∧ (z5).toInt ≤ 40 := by omega
      exact ke74 _ _ _ _ _ p102063 p102064
    · replace c102062 := q_nle c102062
      refine wq_X7_often h102055 (fun r_10 => ?_)
      refine ⟨fun c102065 => ?_, fun c102066 => ?_⟩
      · replace c102065 := q_lt c102065
        refine wq_X7_often h102055 (fun r_13 => ?_)
        have p102067 : 0 ≤ (z1).toInt ∧ (z1).toInt < D := by omega
        have e102068 := tq_addr li_1 z5
        try rw [Int.emod_eq_of_lt (show 0 ≤ (z5).toInt + 1 + 2147483648 by omega) (show (z5).toInt + 1 + 2147483648 < 4294967296 by omega)] at e102068
        have p102069 : 0 ≤ (z5 + 1).toInt ∧ (z5 + 1).toInt ≤ 40 := by omega
        have p102070 : 40 - (z5 + 1).toInt < ((n : Nat) : Int) := by (omega)
        exact ih _ _ _ _ _ p102067 p102069 p102070
      · replace c102066 := q_nlt c102066
        have p102071 : 0 ≤ (z1).toInt ∧ (z1).toInt < D := by omega
        have e102072 := tq_addr li_1 z5
        try rw [Int.emod_eq_of_lt (show 0 ≤ (z5).toInt + 1 + 2147483648 by omega) (show (z5).toInt + 1 + 2147483648 < 4294967296 by omega)] at e102072
        have p102073 : 0 ≤ (z5 + 1).toInt ∧ (z5 + 1).toInt ≤ 40 := by omega
        have p102074 : 40 - (z5 + 1).toInt < ((n : Nat) : Int) := by (omega)
        exact ih _ _ _ _ _ p102071 p102073 p102074

theorem wq_X7_usual {post : Int32 → Prop} {s0 : Md} {x1 : Int32} {x2 : Int32} {N R W D : Int} (h102075 : mb (N) (R) (W) (D) s0) (k : ∀ (r : Int32), post r) : wp_X7_usual post s0 x1 x2 := by
  unfold wp_X7_usual
  have := h102075.1
  have := h102075.2.1
  have := h102075.2.2.1
  have := h102075.2.2.2.1
  refine wq_X7_isDrum h102075 (fun r_1 q102076 => ?_)
  refine ⟨fun c102077 => ?_, fun c102078 => ?_⟩
  · replace c102077 := q_eq c102077
    rw [li_0] at c102077
    exact k _
  · replace c102078 := q_neq c102078
    rw [li_0] at c102078
    refine wq_X7_in (fun r_4 q102079 => ?_)
    try simp only [lj_0, lj_1] at q102079
    have := tq_64 x2
    refine ⟨fun c102080 => ?_, fun c102081 => ?_⟩
    · replace c102080 := q_neq c102080
      rw [li_0] at c102080
      have p102082 : 0 ≤ (x1).toInt ∧ (x1).toInt < D := by omega
      have p102083 : 0 ≤ (0 : Int32).toInt ∧ (0 : Int32).toInt ≤ 40 := by (have := li_0; omega)
      obtain ⟨f102084, g102085⟩ := fu_e 50
      have p102086 : 40 - (0 : Int32).toInt < (f102084 : Int) := by (have := li_0; omega)
      refine ⟨f102084, wq_X7_usual_L29 h102075 (fun z1 z2 z3 z4 z5 q102087 q102088 => ?_) f102084 _ _ _ _ _ p102082 p102083 p102086⟩
      refine ⟨fun c102089 => ?_, fun c102090 => ?_⟩
      · replace c102089 := q_eq c102089
        rw [li_m2] at c102089
        exact k _
      · replace c102090 := q_neq c102090
        rw [li_m2] at c102090
        refine ⟨fun c102091 => ?_, fun c102092 => ?_⟩
        · replace c102091 := q_neq c102091
          rw [li_0] at c102091
          exact k _
        · replace c102092 := q_eq c102092
          rw [li_0] at c102092
          exact k _
    · replace c102081 := q_eq c102081
      rw [li_0] at c102081
      exact k _
theorem wq_X7_loudest_L31 {post : Int32 → Md → Prop} {e63 : Md → Int32 → Int32 → Int32 → Int32 → Prop} {N R W D : Int} (hD : 0 < D) (ke : ∀ (t : Md) (z1 z2 z3 z4 : Int32), mb N R W D t → e63 t z1 z2 z3 z4) : ∀ (n : Nat) (t : Md) (z1 z2 z3 z4 : Int32), mb N R W D t → mu_n (t.2.2.1 0) 40 < (n : Int) → wp_X7_loudest_L31 post e63 n t z1 z2 z3 z4 := by
  have e0 : (0 : Int32).toInt = 0 := rfl
  intro n
  induction n with
  | zero =>
    intro t z1 z2 z3 z4 h hm
    have := mu_b h.2.2.2.2.1 hD 40 (by omega)
    exfalso
    omega
  | succ n ih =>
    intro t z1 z2 z3 z4 h hm
    unfold wp_X7_loudest_L31
    refine wq_X7_ticks h hD (fun r u hu ju b1 b2 => ⟨fun c => ke _ _ _ _ _ hu, fun c => ?_⟩)
    have c2 := q_nle c
    exact ⟨fun _ => ih _ _ _ _ _ hu (by omega), fun _ => ih _ _ _ _ _ hu (by omega)⟩
theorem wq_X7_loudest {post : Int32 → Md → Prop} {s0 : Md} {x1 : Int32} {N R W D : Int} (h102093 : mb (N) (R) (W) (D) s0) (h102094 : R ≤ 0 ∨ 0 < D) (k : ∀ (r : Int32) (u : Md) (R4 W4 D4 : Int), mb (N) (R4) (W4) (D4) u → R4 ≤ 0 ∨ 0 < D4 → post r u) : wp_X7_loudest post s0 x1 := by
  unfold wp_X7_loudest
  have := h102093.1
  have := h102093.2.1
  have := h102093.2.2.1
  have := h102093.2.2.2.1
  refine wq_X7_isBoard h102093 (fun r_1 q102095 => ?_)
  refine ⟨fun c102096 => ?_, fun c102097 => ?_⟩
  · replace c102096 := q_eq c102096
    rw [li_0] at c102096
    have p102098 : R ≤ 0 ∨ 0 < D := by omega
    exact k _ _ (R) (W) (D) h102093 p102098
  · replace c102097 := q_neq c102097
    rw [li_0] at c102097
    refine wq_X7_in (fun r_4 q102099 => ?_)
    try simp only [lj_0, lj_1] at q102099
    have := tq_64 x1
    refine ⟨fun c102100 => ?_, fun c102101 => ?_⟩
    · replace c102100 := q_neq c102100
      rw [li_0] at c102100
      have p102102 : R ≤ 0 ∨ 0 < D := by omega
      refine wq_X7_putsAside h102093 p102102 (fun u_8 q102103 q102104 q102105 => ?_)
      have := q102103.1
      have := q102103.2.1
      have p102106 : 0 < D := by omega
      try have := mu_b q102103.2.2.2.2.1 (show 0 < D by omega) 40 (by omega)
      obtain ⟨f102107, g102108⟩ := fu_e 5000
      have p102109 : mu_n ((u_8.2.2.1 0)) 40 < (f102107 : Int) := by (omega)
      refine ⟨f102107, wq_X7_loudest_L31 p102106 (fun t0 z1 z2 z3 z4 q102110 => ?_) f102107 _ _ _ _ _ q102103 p102109⟩
      have := q102110.1
      have := q102110.2.1
      refine wq_X7_takesBack q102110 (fun u_14 R4102111 W4102112 D4102113 q102114 q102115 q102116 => ?_)
      have := q102114.1
      have := q102114.2.1
      have := q102114.2.2.2.1
      refine ⟨fun c102117 => ?_, fun c102118 => ?_⟩
      · replace c102117 := q_eq c102117
        rw [li_m2] at c102117
        have p102119 : R4102111 ≤ 0 ∨ 0 < D4102113 := by omega
        exact k _ _ (R4102111) (W4102112) (D4102113) q102114 p102119
      · replace c102118 := q_neq c102118
        rw [li_m2] at c102118
        refine ⟨fun c102120 => ?_, fun c102121 => ?_⟩
        · replace c102120 := q_neq c102120
          rw [li_0] at c102120
          have p102122 : R4102111 ≤ 0 ∨ 0 < D4102113 := by omega
          exact k _ _ (R4102111) (W4102112) (D4102113) q102114 p102122
        · replace c102121 := q_eq c102121
          rw [li_0] at c102121
          have p102123 : R4102111 ≤ 0 ∨ 0 < D4102113 := by omega
          exact k _ _ (R4102111) (W4102112) (D4102113) q102114 p102123
    · replace c102101 := q_eq c102101
      rw [li_0] at c102101
      have p102124 : R ≤ 0 ∨ 0 < D := by omega
      exact k _ _ (R) (W) (D) h102093 p102124
theorem wq_X7_letter {post : Int32 → Prop} {s0 : Md} {x1 x2 : Int32} {N R W D : Int} (h : mb N R W D s0) (hs : R ≤ 0 ∨ 0 < D) (k : ∀ r : Int32, post r) : wp_X7_letter post s0 x1 x2 := by
  unfold wp_X7_letter
  have e0 : (0 : Int32).toInt = 0 := rfl
  have e1 : (1 : Int32).toInt = 1 := rfl
  have e2 : (2 : Int32).toInt = 2 := rfl
  have m1 : (-1 : Int32).toInt = -1 := rfl
  have l0 : (0 : Int64).toInt = 0 := rfl
  have l1 : (1 : Int64).toInt = 1 := rfl
  have x64 := tq_64 x1
  have pd := h.2.2.2.1
  have same : ∀ a b : Int32, a.toInt = W → b.toInt = W → a = b := fun a b p q => Int32.toInt_inj.mp (p.trans q.symm)
  refine wq_X7_in (fun r1 b1 => ⟨fun _ => k _, fun c1 => ?_⟩)
  have c1 := q_neq c1
  refine ⟨fun c2 => ?_, fun _ => k _⟩
  have c2 := q_le c2
  refine wq_X7_cells h (fun r5 a5 => ⟨fun c3 => ?_, fun c3 => ?_⟩)
  · have c3 := q_neq c3
    refine wq_X7_wide h (fun r8 a8 => wq_X7_rows h (fun r10 a10 => ⟨fun c4 => ?_, fun _ => k _⟩))
    have c4 := q_neq c4
    refine ⟨fun c5 => ?_, fun _ => k _⟩
    have c5 := q_lt c5
    have s8 := nw (tq_addr e1 r8) (by omega)
    have pm : ((r8 + 1) * r10).toInt = R * W + R := by
      have e := tq_mul (r8 + 1) r10
      rw [s8, a8, a10, Int.add_mul, Int.one_mul, Int.mul_comm W R] at e
      exact nw e (by omega)
    have pm2 := nw (tq_subr e1 ((r8 + 1) * r10)) (by omega)
    refine wq_X7_wide h (fun r14 a14 => ⟨z_ne (by have := nw (tq_addr e1 r14) (by omega); omega), wq_X7_wide h (fun r17 a17 => ⟨fun c6 => ?_, fun _ => k _⟩)⟩)
    have c6 := q_neq c6
    refine wq_X7_wide h (fun r20 a20 => ⟨z_ne (by have := nw (tq_addr e1 r20) (by omega); omega), wq_X7_wide h (fun r23 a23 => ?_)⟩)
    have q1 := same r20 r14 a20 a14
    have q2 := same r23 r14 a23 a14
    subst q1
    subst q2
    have lb := let_b (x := x2) (w := r23) (R := R) (W := W) a23 (by omega) (by omega) (Or.inl ⟨by omega, by omega⟩)
    have t1 := nw (tq_mulc e2 x1) (by omega)
    exact wq_X7_signAt h lb (by omega) (by omega) (fun r => k r)
  · have c3 := q_eq c3
    refine ⟨fun c4 => ⟨fun c5 => ?_, fun _ => k _⟩, fun _ => k _⟩
    have c4 := q_neq c4
    have c5 := q_lt c5
    exfalso
    omega
theorem wq_X7_count {post : Int32 → Md → Prop} {s0 : Md} {x1 : Int32} {N R W D : Int} (h : mb N R W D s0) (hs : R ≤ 0 ∨ 0 < D) (k : ∀ (r : Int32) (u : Md), mb N R W D u → post r u) : wp_X7_count post s0 x1 := by
  unfold wp_X7_count
  refine ⟨fun _ => wq_X7_rows h (fun r _ => k _ _ h), fun _ => ⟨fun _ => wq_X7_wide h (fun r _ => k _ _ h), fun _ => ⟨fun _ => wq_X7_cells h (fun r _ => k _ _ h), fun _ => ⟨fun _ => k _ _ h, fun _ => ⟨fun _ => wq_X7_drums h (fun r _ => k _ _ h), fun _ => ⟨fun _ => k _ _ h, fun _ => ⟨fun _ => k _ _ h, fun _ => ⟨fun _ => ⟨fun _ => ⟨fun _ => k _ _ h, fun _ => k _ _ h⟩, fun _ => ⟨fun _ => k _ _ h, fun _ => k _ _ h⟩⟩, fun _ => ⟨fun _ => wq_X7_findsTurningZ h hs (fun u hu _ => k _ _ hu), fun _ => k _ _ h⟩⟩⟩⟩⟩⟩⟩⟩⟩
theorem mb_N {N M R W D : Int} {s t : Md} (h : mb N R W D s) (h5 : (t.1 5).toInt = M) (hM : 0 ≤ M ∧ M ≤ 400) (h0 : t.1 0 = s.1 0) (h2 : t.2.2.1 = s.2.2.1) (h3 : t.2.2.2 0 = s.2.2.2 0) : mb M R W D t := by
  obtain ⟨a0, a1, a2, a3, a4, a5, a6, a7⟩ := h
  unfold mb
  rw [h5, h0, h2, h3]
  exact ⟨rfl, a1, hM, a3, a4, a5, a6, a7⟩
theorem wq_X7_lays_L3 {post : Md → Prop} {e36 : Md → Int32 → Int32 → Prop} {N R W D C : Int} (hC : C ≤ 400) (ke : ∀ (t : Md) (z1 z2 : Int32), mb C R W D t → e36 t z1 z2) : ∀ (n : Nat) (t : Md) (z1 z2 : Int32) (M : Int), mb M R W D t → 8 * M + z2.toInt = 8 * C - 8 → -8 ≤ z2.toInt ∧ z2.toInt ≤ 24 → z2.toInt + 8 < (n : Int) → wp_X7_lays_L3 post e36 n t z1 z2 := by
  have e0 : (0 : Int32).toInt = 0 := rfl
  have e1 : (1 : Int32).toInt = 1 := rfl
  have m8 : (-8 : Int32).toInt = -8 := rfl
  intro n
  induction n with
  | zero =>
    intro t z1 z2 M _ _ _ _
    exfalso
    omega
  | succ n ih =>
    intro t z1 z2 M h i1 i2 i3
    unfold wp_X7_lays_L3
    refine ⟨fun c => ?_, fun c => ?_⟩
    · have c2 := q_lt c
      have e : M = C := by omega
      exact ke t z1 z2 (e ▸ h)
    · have c2 := q_nlt c
      have q0 := h.1
      have q1 := h.2.2.1
      have s1 := nw (tq_addr e1 (t.1 5)) (by omega)
      have s8 := tq_addr m8 z2
      generalize hy : z2 + (-8) = y at s8 ⊢
      have s9 := nw s8 (by omega)
      refine ⟨vi (by omega) (by omega), ih _ _ _ (M + 1) (mb_N h ?_ (by omega) rfl rfl rfl) (by omega) (by omega) (by omega)⟩
      show (t.1 5 + 1).toInt = M + 1
      omega
theorem wq_X7_lays {post : Md → Prop} {s0 : Md} {x1 : Int32} {N R W D : Int} (h : mb N R W D s0) (hN : N + 4 ≤ 400) (k : ∀ u : Md, mb (N + 4) R W D u → post u) : wp_X7_lays post s0 x1 := by
  unfold wp_X7_lays
  have e24 : (24 : Int32).toInt = 24 := rfl
  obtain ⟨nf, hf⟩ := fu_e 50
  exact ⟨nf, wq_X7_lays_L3 (N := N) (C := N + 4) hN (fun t _ _ ht => k t ht) nf s0 x1 24 N h (by omega) (by omega) (by omega)⟩
theorem wq_X7_feed {post : Int32 → Md → Prop} {s0 : Md} {x1 : Int32} {x2 : Int32} {x3 : Int32} {x4 : Int32} {x5 : Int32} {N R W D : Int} (h102125 : mb (N) (R) (W) (D) s0) (k : ∀ (r : Int32) (u : Md) (M : Int), mb (M) (R) (W) (D) u → ((r).toInt = M ∧ M = N + 20 ∧ N + 20 ≤ 400) ∨ ((r).toInt = -1 ∧ M = N ∧ 400 < N + 20) → post r u) : wp_X7_feed post s0 x1 x2 x3 x4 x5 := by
  unfold wp_X7_feed
  have := h102125.1
  have := h102125.2.1
  have := h102125.2.2.1
  have := h102125.2.2.2.1
  refine ⟨fun c102126 => ?_, fun c102127 => ?_⟩
  · replace c102126 := q_le c102126
    rw [li_380] at c102126
    have p102128 : N + 4 ≤ 400 := by omega
    refine wq_X7_lays h102125 p102128 (fun u_3 q102129 => ?_)
    have := q102129.1
    have := q102129.2.1
    have := q102129.2.2.1
    have p102130 : N + 4 + 4 ≤ 400 := by omega
    refine wq_X7_lays q102129 p102130 (fun u_5 q102131 => ?_)
    have := q102131.1
    have := q102131.2.1
    have := q102131.2.2.1
    have p102132 : N + 4 + 4 + 4 ≤ 400 := by omega
    refine wq_X7_lays q102131 p102132 (fun u_7 q102133 => ?_)
    have := q102133.1
    have := q102133.2.1
    have := q102133.2.2.1
    have p102134 : N + 4 + 4 + 4 + 4 ≤ 400 := by omega
    refine wq_X7_lays q102133 p102134 (fun u_9 q102135 => ?_)
    have := q102135.1
    have := q102135.2.1
    have := q102135.2.2.1
    have p102136 : N + 4 + 4 + 4 + 4 + 4 ≤ 400 := by omega
    refine wq_X7_lays q102135 p102136 (fun u_11 q102137 => ?_)
    have := q102137.1
    have := q102137.2.1
    have := q102137.2.2.1
    have p102138 : ((u_11.1 5).toInt = N + 4 + 4 + 4 + 4 + 4 ∧ N + 4 + 4 + 4 + 4 + 4 = N + 20 ∧ N + 20 ≤ 400) ∨ ((u_11.1 5).toInt = -1 ∧ N + 4 + 4 + 4 + 4 + 4 = N ∧ 400 < N + 20) := by omega
    exact k _ _ (N + 4 + 4 + 4 + 4 + 4) q102137 p102138
  · replace c102127 := q_nle c102127
    rw [li_380] at c102127
    have p102139 : ((-1 : Int32).toInt = N ∧ N = N + 20 ∧ N + 20 ≤ 400) ∨ ((-1 : Int32).toInt = -1 ∧ N = N ∧ 400 < N + 20) := by (have := li_m1; omega)
    exact k _ _ (N) h102125 p102139
theorem wq_X7_end {post : Int32 → Md → Prop} {s0 : Md} {x1 : Int32} {N R W D : Int} (h102140 : mb (N) (R) (W) (D) s0) (k : ∀ (r : Int32) (u : Md) (M : Int), mb (M) (R) (W) (D) u → ((r).toInt = (x1).toInt ∧ M = (x1).toInt ∧ 0 ≤ (x1).toInt ∧ (x1).toInt ≤ N) ∨ ((r).toInt = -1 ∧ M = N ∧ ((x1).toInt < 0 ∨ N < (x1).toInt)) → post r u) : wp_X7_end post s0 x1 := by
  unfold wp_X7_end
  have := h102140.1
  have := h102140.2.1
  have := h102140.2.2.1
  have := h102140.2.2.2.1
  refine wq_X7_in (fun r_1 q102141 => ?_)
  try simp only [lj_0] at q102141
  have := tq_64 x1
  have := tq_64 (s0.1 5)
  refine ⟨fun c102142 => ?_, fun c102143 => ?_⟩
  · replace c102142 := q_neq c102142
    rw [li_0] at c102142
    have p102144 : (x1).toInt = (x1).toInt := by omega
    have p102145 : 0 ≤ (s0.1 0).toInt ∧ (s0.1 0).toInt ≤ 10 := by omega
    have p102146 : 0 ≤ (x1).toInt ∧ (x1).toInt ≤ 400 := by omega
    have p102147 : 0 ≤ R ∧ R ≤ 6 ∧ 0 ≤ W ∧ W ≤ 10 ∧ 0 ≤ R * W ∧ R * W ≤ 40 ∧ 0 ≤ D ∧ D ≤ 4 ∧ (D ≤ 0 ∨ 1 ≤ R) ∧ (1 ≤ R ∨ R * W = 0) := by omega
    have B102148 : mb ((x1).toInt) (R) (W) (D) ((va_up s0.1 5 x1), s0.2.1, s0.2.2.1, s0.2.2.2) := ⟨p102144, p102145, p102146, p102147, h102140.2.2.2.2.1, h102140.2.2.2.2.2.1, h102140.2.2.2.2.2.2.1, h102140.2.2.2.2.2.2.2⟩
    have p102149 : ((x1).toInt = (x1).toInt ∧ (x1).toInt = (x1).toInt ∧ 0 ≤ (x1).toInt ∧ (x1).toInt ≤ N) ∨ ((x1).toInt = -1 ∧ (x1).toInt = N ∧ ((x1).toInt < 0 ∨ N < (x1).toInt)) := by omega
    exact k _ _ ((x1).toInt) B102148 p102149
  · replace c102143 := q_eq c102143
    rw [li_0] at c102143
    have p102150 : ((-1 : Int32).toInt = (x1).toInt ∧ N = (x1).toInt ∧ 0 ≤ (x1).toInt ∧ (x1).toInt ≤ N) ∨ ((-1 : Int32).toInt = -1 ∧ N = N ∧ ((x1).toInt < 0 ∨ N < (x1).toInt)) := by (have := li_m1; omega)
    exact k _ _ (N) h102140 p102150

theorem and255 (a : Int32) : 0 ≤ (a &&& 255).toInt ∧ (a &&& 255).toInt ≤ 255 := by
  have e : (a &&& 255).toBitVec.toNat = a.toBitVec.toNat &&& 255 := by
    rw [Int32.toBitVec_and, BitVec.toNat_and]
    rfl
  have l : a.toBitVec.toNat &&& 255 ≤ 255 := Nat.and_le_right
  have t : (a &&& 255).toInt = ((a &&& 255).toBitVec.toNat : Int) := by
    show (a &&& 255).toBitVec.toInt = _
    rw [BitVec.toInt_eq_toNat_of_lt (by rw [e]; omega)]
  rw [t, e]
  omega
def tb7 (s : Md) (x : Int32) : Int32 := if s.1 5 ≤ x then -1 else (s.2.2.2 2 (Int32.toNatClampNeg x)) &&& 255
theorem wq_X7_byteAt {post : Int32 → Prop} {s0 : Md} {x1 : Int32} {N R W D : Int} (h : mb N R W D s0) (hx : 0 ≤ x1.toInt) (k : ∀ r : Int32, (r.toInt = -1 ∧ N ≤ x1.toInt) ∨ (0 ≤ r.toInt ∧ r.toInt ≤ 255 ∧ x1.toInt < N) → r = tb7 s0 x1 → post r) : wp_X7_byteAt post s0 x1 := by
  unfold wp_X7_byteAt
  have q0 := h.1
  have q1 := h.2.2.1
  have m1 : (-1 : Int32).toInt = -1 := rfl
  refine ⟨fun c => k _ (Or.inl ⟨m1, by have := q_le c; omega⟩) (by unfold tb7; rw [if_pos c]), fun c => ?_⟩
  have c2 := q_nle c
  have a := and255 (s0.2.2.2 2 (Int32.toNatClampNeg x1))
  exact ⟨vi (by omega) (by omega), k _ (Or.inr ⟨a.1, a.2, by omega⟩) (by unfold tb7; rw [if_neg c])⟩
theorem wq_X7_nextByte_L0 {post : Int32 → Md → Prop} {e26 : Md → Prop} {s : Md} {N R W D : Int} (hs : mb N R W D s) (h6 : 0 ≤ (s.1 6).toInt) (ke : ∀ t : Md, mb N R W D t → ie [6] t.1 s.1 → t.2 = s.2 → (s.1 6).toInt ≤ (t.1 6).toInt ∧ (t.1 6).toInt ≤ N → (¬ tb7 s (s.1 6) = 32 → t = s) → ¬ tb7 t (t.1 6) = 32 → e26 t) : ∀ (n : Nat) (t : Md), mb N R W D t → ie [6] t.1 s.1 → t.2 = s.2 → (s.1 6).toInt ≤ (t.1 6).toInt ∧ (t.1 6).toInt ≤ N → (¬ tb7 s (s.1 6) = 32 → t = s) → N - (t.1 6).toInt < (n : Int) → wp_X7_nextByte_L0 post e26 n t := by
  have e1 : (1 : Int32).toInt = 1 := rfl
  have e32 : (32 : Int32).toInt = 32 := rfl
  intro n
  induction n with
  | zero =>
    intro t _ _ _ _ _ _
    exfalso
    omega
  | succ n ih =>
    intro t h a1 a2 a3 a5 hm
    unfold wp_X7_nextByte_L0
    refine wq_X7_byteAt h (by omega) (fun r b1 b2 => ⟨fun c => ke t h a1 a2 a3 a5 (fun g => c (b2.trans g)), fun c => ?_⟩)
    have c2 := q_eq c
    have pn := h.2.2.1
    have s1 := nw (tq_addr e1 (t.1 6)) (by omega)
    have e6 : (((va_up t.1 6 ((t.1 6) + 1)), t.2.1, t.2.2.1, t.2.2.2) : Md).1 6 = t.1 6 + 1 := rfl
    refine ih _ (mb_i h rfl rfl rfl) (ie_up a1 (by decide)) a2 ?_ (fun g => ?_) ?_
    · rw [e6]
      omega
    · exfalso
      have tt : tb7 t (t.1 6) = 32 := b2.symm.trans c
      rw [a5 g] at tt
      exact g tt
    · rw [e6]
      omega
theorem wq_X7_nextByte {post : Int32 → Md → Prop} {s0 : Md} {N R W D : Int} (h : mb N R W D s0) (h6 : 0 ≤ (s0.1 6).toInt ∧ (s0.1 6).toInt ≤ N) (k : ∀ (r : Int32) (u : Md), mb N R W D u → ie [6] u.1 s0.1 → (s0.1 6).toInt ≤ (u.1 6).toInt ∧ (u.1 6).toInt ≤ N → (r.toInt = -1 ∧ (u.1 6).toInt = N) ∨ (0 ≤ r.toInt ∧ r.toInt ≤ 255 ∧ (u.1 6).toInt < N) → u.2 = s0.2 → r = tb7 u (u.1 6) ∧ ¬ tb7 u (u.1 6) = 32 ∧ (¬ tb7 s0 (s0.1 6) = 32 → u = s0) → post r u) : wp_X7_nextByte post s0 := by
  unfold wp_X7_nextByte
  have pn := h.2.2.1
  obtain ⟨nf, hf⟩ := fu_e 500
  refine ⟨nf, wq_X7_nextByte_L0 h h6.1 (fun t b1 b2 b3 b4 b5 b6 => ?_) nf s0 h (ie_refl _ _) rfl ⟨Int.le_refl _, h6.2⟩ (fun _ => rfl) (by omega)⟩
  exact wq_X7_byteAt b1 (by omega) (fun r c1 c2 => k r t b1 b2 b4 (by omega) b3 ⟨c2, b6, b5⟩)
theorem ch_b : ∀ i, i < 12 → ∀ j, j < st_len.getD i 0 → 97 ≤ (chv i j).toInt ∧ (chv i j).toInt ≤ 122 := by decide +kernel
theorem wq_X7_fails {post : Int32 → Md → Prop} {s0 : Md} {x1 : Int32} {x2 : Int32} {N R W D : Int} (h102151 : mb (N) (R) (W) (D) s0) (k : ∀ (r : Int32) (u : Md), mb (N) (R) (W) (D) u → ie [7] u.1 s0.1 → (r).toInt = 0 → u.2 = s0.2 → post r u) : wp_X7_fails post s0 x1 x2 := by
  unfold wp_X7_fails
  have := h102151.1
  have := h102151.2.1
  have := h102151.2.2.1
  have := h102151.2.2.2.1
  have p102152 : (s0.1 5).toInt = N := by omega
  have p102153 : 0 ≤ (s0.1 0).toInt ∧ (s0.1 0).toInt ≤ 10 := by omega
  have p102154 : 0 ≤ N ∧ N ≤ 400 := by omega
  have p102155 : 0 ≤ R ∧ R ≤ 6 ∧ 0 ≤ W ∧ W ≤ 10 ∧ 0 ≤ R * W ∧ R * W ≤ 40 ∧ 0 ≤ D ∧ D ≤ 4 ∧ (D ≤ 0 ∨ 1 ≤ R) ∧ (1 ≤ R ∨ R * W = 0) := by omega
  have B102156 : mb (N) (R) (W) (D) ((va_up s0.1 7 ((8 * x2) + x1)), s0.2.1, s0.2.2.1, s0.2.2.2) := ⟨p102152, p102153, p102154, p102155, h102151.2.2.2.2.1, h102151.2.2.2.2.2.1, h102151.2.2.2.2.2.2.1, h102151.2.2.2.2.2.2.2⟩
  have p102157 : ie [7] (va_up s0.1 7 ((8 * x2) + x1)) s0.1 := (ie_up (ie_refl _ _) (by decide))
  have p102158 : (0 : Int32).toInt = 0 := by (have := li_0; omega)
  have p102159 : s0.2 = s0.2 := rfl
  exact k _ _ B102156 p102157 p102158 p102159
theorem wq_X7_charAtF {post : Int32 → Prop} {i0 : Nat} {x1 : Int32} (h : 0 ≤ x1.toInt ∧ x1.toInt < ln i0) (k : ∀ r : Int32, 97 ≤ r.toInt ∧ r.toInt ≤ 122 → r = chv i0 x1.toInt.toNat → post r) : wp_J0_charAt_5068e post i0 x1 := by
  unfold wp_J0_charAt_5068e wp_J0_isLatin1_aae02
  have l := st_le i0
  have h2 : x1.toInt < ((st_len.getD i0 0 : Nat) : Int) := h.2
  have t := tq_ofn (n := st_len.getD i0 0) (by omega)
  have g : i0 < 12 := st_lt (by omega)
  have hj : Int32.toNatClampNeg x1 < st_len.getD i0 0 := by
    rw [tn_i]
    omega
  have ch : narrow .char (.int (chv i0 (Int32.toNatClampNeg x1))) = .int (chv i0 (Int32.toNatClampNeg x1)) := congrArg (fun z => (.int z : Value)) (ch_ok i0 g _ (by omega))
  refine ⟨fun c => absurd c (by decide), fun _ => ?_⟩
  unfold wp_J1_charAt_3b067 wp_J0_checkIndex_df160 wp_J3_checkIndex_8e157_n
  refine ⟨fun c => ?_, fun c => ⟨fun d => ?_, fun d => ?_⟩⟩
  · have := q_lt c
    have e0 : (0 : Int32).toInt = 0 := rfl
    exfalso
    omega
  · exact ⟨vi h.1 h2, ch, ch, k _ (ch_b i0 g _ hj) rfl⟩
  · have := q_nlt d
    exfalso
    omega
def wd_m (s : Md) (i n : Nat) : Prop := ∀ k, k < n → tb7 s (s.1 6 + nI k) = chv i k
def wd_y (s : Md) (i : Nat) : Prop := wd_m s i (st_len.getD i 0) ∧ ¬ (97 ≤ (tb7 s (s.1 6 + nI (st_len.getD i 0))).toInt ∧ (tb7 s (s.1 6 + nI (st_len.getD i 0))).toInt ≤ 122)
theorem wq_X7_isWord_L22 {i1 : Nat} {post : Int32 → Md → Prop} {e51 : Md → Int32 → Int32 → Prop} {t0 : Md} {N R W D : Int} (h : mb N R W D t0) (h6 : 0 ≤ (t0.1 6).toInt ∧ (t0.1 6).toInt ≤ N) (hi : 1 ≤ ln i1 ∧ ln i1 ≤ 9) (ke : ∀ z3 : Int32, (z3.toInt = ln i1 ∧ wd_m t0 i1 (st_len.getD i1 0)) ∨ (z3.toInt < ln i1 ∧ ¬ wd_m t0 i1 (st_len.getD i1 0)) → 0 ≤ z3.toInt → (t0.1 6).toInt + z3.toInt ≤ N → e51 t0 (t0.1 6) z3) : ∀ (n : Nat) (z3 : Int32), wd_m t0 i1 z3.toInt.toNat → 0 ≤ z3.toInt ∧ z3.toInt ≤ ln i1 → (t0.1 6).toInt + z3.toInt ≤ N → ln i1 - z3.toInt < (n : Int) → wp_X7_isWord_L22 i1 post e51 n t0 (t0.1 6) z3 := by
  have e1 : (1 : Int32).toInt = 1 := rfl
  have pn := h.2.2.1
  intro n
  induction n with
  | zero =>
    intro z3 _ _ _ _
    exfalso
    omega
  | succ n ih =>
    intro z3 w i2 i4 i3
    unfold wp_X7_isWord_L22
    have hl : ln i1 = ((st_len.getD i1 0 : Nat) : Int) := rfl
    refine wq_J0_length_8abf5 (fun r4 a4 b4 => ⟨fun c => ke z3 (Or.inl ⟨by have := q_le c; omega, ?_⟩) i2.1 i4, fun c => ?_⟩)
    · have e : z3.toInt.toNat = st_len.getD i1 0 := by
        have := q_le c
        omega
      rw [← e]
      exact w
    have c2 := q_nle c
    have s1 := nw (tq_addr e1 z3) (by omega)
    have s2 := nw (tq_add (t0.1 6) z3) (by omega)
    have ez := nI_z (z := z3) i2.1
    refine wq_X7_byteAt h (by omega) (fun r7 a7 b7 => wq_X7_charAtF (by omega) (fun r9 a9 b9 => ⟨fun g => ?_, fun g => ?_⟩))
    · refine ke z3 (Or.inr ⟨by omega, fun m => g ?_⟩) i2.1 i4
      have q := m z3.toInt.toNat (by omega)
      rw [← ez] at q
      rw [b7, q, b9]
    · have g2 := q_eq g
      refine ih (z3 + 1) (fun k hk => ?_) (by omega) (by omega) (by omega)
      by_cases e : k = z3.toInt.toNat
      · rw [e, ← ez, ← b7, g, b9]
      · exact w k (by omega)
theorem wq_X7_isWord_L22b {i1 : Nat} {post : Int32 → Md → Prop} {e51 : Md → Int32 → Int32 → Prop} {t0 : Md} {N R W D : Int} (h : mb N R W D t0) (h6 : 0 ≤ (t0.1 6).toInt ∧ (t0.1 6).toInt ≤ N) (hi : 1 ≤ ln i1 ∧ ln i1 ≤ 9) (ke : ∀ z3 : Int32, (z3.toInt = ln i1 ∧ wd_m t0 i1 (st_len.getD i1 0)) ∨ (z3.toInt < ln i1 ∧ ¬ wd_m t0 i1 (st_len.getD i1 0)) → 0 ≤ z3.toInt → (t0.1 6).toInt + z3.toInt ≤ N → e51 t0 (t0.1 6) z3) : ∀ (n : Nat) (z3 : Int32), wd_m t0 i1 z3.toInt.toNat → 0 ≤ z3.toInt ∧ z3.toInt ≤ ln i1 → (t0.1 6).toInt + z3.toInt ≤ N → ln i1 - z3.toInt < (n : Int) → wp_X7_isWord_L22b i1 post e51 n t0 (t0.1 6) z3 := by
  have e1 : (1 : Int32).toInt = 1 := rfl
  have pn := h.2.2.1
  intro n
  induction n with
  | zero =>
    intro z3 _ _ _ _
    exfalso
    omega
  | succ n ih =>
    intro z3 w i2 i4 i3
    unfold wp_X7_isWord_L22b
    have hl : ln i1 = ((st_len.getD i1 0 : Nat) : Int) := rfl
    refine wq_J0_length_8abf5 (fun r4 a4 b4 => ⟨fun c => ke z3 (Or.inl ⟨by have := q_le c; omega, ?_⟩) i2.1 i4, fun c => ?_⟩)
    · have e : z3.toInt.toNat = st_len.getD i1 0 := by
        have := q_le c
        omega
      rw [← e]
      exact w
    have c2 := q_nle c
    have s1 := nw (tq_addr e1 z3) (by omega)
    have s2 := nw (tq_add (t0.1 6) z3) (by omega)
    have ez := nI_z (z := z3) i2.1
    refine wq_X7_byteAt h (by omega) (fun r7 a7 b7 => wq_X7_charAtF (by omega) (fun r9 a9 b9 => ⟨fun g => ?_, fun g => ?_⟩))
    · refine ke z3 (Or.inr ⟨by omega, fun m => g ?_⟩) i2.1 i4
      have q := m z3.toInt.toNat (by omega)
      rw [← ez] at q
      rw [b7, q, b9]
    · have g2 := q_eq g
      refine ih (z3 + 1) (fun k hk => ?_) (by omega) (by omega) (by omega)
      by_cases e : k = z3.toInt.toNat
      · rw [e, ← ez, ← b7, g, b9]
      · exact w k (by omega)
theorem wd_end {post : Int32 → Md → Prop} {u : Md} {z2 z3 : Int32} {i1 : Nat} {N R W D : Int} (h : mb N R W D u) (h6 : 0 ≤ (u.1 6).toInt) (hz2 : z2 = u.1 6) (hz : (z3.toInt = ln i1 ∧ wd_m u i1 (st_len.getD i1 0)) ∨ (z3.toInt < ln i1 ∧ ¬ wd_m u i1 (st_len.getD i1 0))) (h3 : 0 ≤ z3.toInt) (hn : (u.1 6).toInt + z3.toInt ≤ N) (k : ∀ r : Int32, (r.toInt = 0 ∨ (r.toInt = 1 ∧ (u.1 6).toInt + ln i1 ≤ N)) → ((r.toInt = 1 ∧ wd_y u i1) ∨ (r.toInt = 0 ∧ ¬ wd_y u i1)) → post r u) : wp_J0_length_8abf5 (fun r_12 => ((¬ z3 = r_12 → post 0 u) ∧ (z3 = r_12 → wp_X7_byteAt (fun r_15 => wp_X7_in (fun r_17 => ((¬ r_17 = 0 → post 0 u) ∧ (r_17 = 0 → post 1 u))) (Int32.toInt64 r_15) (97 : Int64) (122 : Int64)) u (z2 + z3)))) i1 := by
  have e0 : (0 : Int32).toInt = 0 := rfl
  have e1 : (1 : Int32).toInt = 1 := rfl
  have l97 : (97 : Int64).toInt = 97 := rfl
  have l122 : (122 : Int64).toInt = 122 := rfl
  have pn := h.2.2.1
  subst hz2
  refine wq_J0_length_8abf5 (fun r12 a12 b12 => ⟨fun c => k _ (Or.inl e0) (Or.inr ⟨e0, ?_⟩), fun c => ?_⟩)
  · have c2 := q_neq c
    rcases hz with g | g
    · omega
    · exact fun y => g.2 y.1
  · have c2 := q_eq c
    have hm : wd_m u i1 (st_len.getD i1 0) := by
      rcases hz with g | g
      · exact g.2
      · omega
    have s2 := nw (tq_add (u.1 6) z3) (by omega)
    have hl : ln i1 = ((st_len.getD i1 0 : Nat) : Int) := rfl
    have ez : z3 = nI (st_len.getD i1 0) := by
      have e := nI_z (z := z3) h3
      have e2 : z3.toInt.toNat = st_len.getD i1 0 := by omega
      rw [e2] at e
      exact e
    refine wq_X7_byteAt h (by omega) (fun r15 a15 b15 => wq_X7_in (fun r17 a17 => ⟨fun g => ?_, fun g => ?_⟩))
    · have g2 := q_neq g
      have t := tq_64 r15
      refine k _ (Or.inl e0) (Or.inr ⟨e0, fun y => y.2 ?_⟩)
      rw [← ez, ← b15]
      omega
    · have g2 := q_eq g
      have t := tq_64 r15
      refine k _ (Or.inr ⟨e1, by omega⟩) (Or.inl ⟨e1, hm, ?_⟩)
      rw [← ez, ← b15]
      omega
theorem wq_X7_isWord {post : Int32 → Md → Prop} {s0 : Md} {i1 : Nat} {N R W D : Int} (h : mb N R W D s0) (h6 : 0 ≤ (s0.1 6).toInt ∧ (s0.1 6).toInt ≤ N) (hi : 1 ≤ ln i1 ∧ ln i1 ≤ 9) (k : ∀ (r : Int32) (u : Md), mb N R W D u → ie [6] u.1 s0.1 → (r.toInt = 0 ∨ r.toInt = 1) → (s0.1 6).toInt ≤ (u.1 6).toInt ∧ (u.1 6).toInt ≤ N → (r.toInt = 0 ∨ (u.1 6).toInt + ln i1 ≤ N) → u.2 = s0.2 → ((r.toInt = 1 ∧ wd_y u i1) ∨ (r.toInt = 0 ∧ ¬ wd_y u i1)) ∧ ¬ tb7 u (u.1 6) = 32 ∧ (¬ tb7 s0 (s0.1 6) = 32 → u = s0) → post r u) : wp_X7_isWord post s0 i1 := by
  unfold wp_X7_isWord
  have e0 : (0 : Int32).toInt = 0 := rfl
  have m1 : (-1 : Int32).toInt = -1 := rfl
  refine wq_X7_nextByte h h6 (fun r1 u hu ju b1 b2 bE b3 => ?_)
  have fin : ∀ r : Int32, (r.toInt = 0 ∨ (r.toInt = 1 ∧ (u.1 6).toInt + ln i1 ≤ N)) → ((r.toInt = 1 ∧ wd_y u i1) ∨ (r.toInt = 0 ∧ ¬ wd_y u i1)) → post r u := fun r q1 q2 => k r u hu ju (by omega) b1 (by omega) bE ⟨q2, b3.2.1, b3.2.2⟩
  have w0 : wd_m u i1 (0 : Int32).toInt.toNat := fun k hk => absurd hk (by rw [e0]; omega)
  refine ⟨fun c => ?_, fun c => ?_⟩
  · obtain ⟨nf, hf⟩ := fu_e 50
    exact ⟨nf, wq_X7_isWord_L22 hu (by omega) hi (fun z3 q1 q2 q3 => wd_end hu (by omega) rfl q1 q2 q3 fin) nf 0 w0 (by omega) (by omega) (by omega)⟩
  · have c2 := q_eq c
    have u5 := hu.1
    have es : u.1 5 = u.1 6 := Int32.toInt_inj.mp (by omega)
    obtain ⟨nf, hf⟩ := fu_e 50
    rw [es]
    exact ⟨nf, wq_X7_isWord_L22b hu (by omega) hi (fun z3 q1 q2 q3 => wd_end hu (by omega) rfl q1 q2 q3 fin) nf 0 w0 (by omega) (by omega) (by omega)⟩
theorem wq_X7_takesWord {post : Int32 → Md → Prop} {s0 : Md} {i1 : Nat} {N R W D : Int} (h102160 : mb (N) (R) (W) (D) s0) (h102161 : 0 ≤ (s0.1 6).toInt ∧ (s0.1 6).toInt ≤ N) (h102162 : 1 ≤ ln i1 ∧ ln i1 ≤ 9) (k : ∀ (r : Int32) (u : Md), mb (N) (R) (W) (D) u → ie [6] u.1 s0.1 → (r).toInt = 0 ∨ (r).toInt = 1 → (s0.1 6).toInt ≤ (u.1 6).toInt ∧ (u.1 6).toInt ≤ N → u.2 = s0.2 → post r u) : wp_X7_takesWord post s0 i1 := by
  unfold wp_X7_takesWord
  have := h102160.1
  have := h102160.2.1
  have := h102160.2.2.1
  have := h102160.2.2.2.1
  have p102163 : 0 ≤ (s0.1 6).toInt ∧ (s0.1 6).toInt ≤ N := by omega
  have p102164 : 1 ≤ ln i1 ∧ ln i1 ≤ 9 := by first | assumption | decide
  refine wq_X7_isWord h102160 p102163 p102164 (fun r_1 u_2 q102165 q102166 q102167 q102168 q102169 q102170 q102171 => ?_)
  have := q102165.1
  have := q102165.2.1
  refine ⟨fun c102172 => ?_, fun c102173 => ?_⟩
  · replace c102172 := q_eq c102172
    rw [li_0] at c102172
    refine ⟨(nb_b (by omega)), ?_⟩
    have p102174 : ie [6] u_2.1 s0.1 := (ie_tr q102166 (by decide) (ie_refl _ _))
    have p102175 : (r_1).toInt = 0 ∨ (r_1).toInt = 1 := by omega
    have p102176 : (s0.1 6).toInt ≤ (u_2.1 6).toInt ∧ (u_2.1 6).toInt ≤ N := by omega
    have p102177 : u_2.2 = s0.2 := q102170
    exact k _ _ q102165 p102174 p102175 p102176 p102177
  · replace c102173 := q_neq c102173
    rw [li_0] at c102173
    refine wq_J0_length_8abf5 (fun r_5 q102178 q102179 => ?_)
    refine ⟨(nb_b (by omega)), ?_⟩
    have : (u_2.1 5).toInt = (s0.1 5).toInt := ie_i q102166 5 (by decide)
    have p102180 : (u_2.1 5).toInt = N := by omega
    have : (u_2.1 0).toInt = (s0.1 0).toInt := ie_i q102166 0 (by decide)
    have p102181 : 0 ≤ (u_2.1 0).toInt ∧ (u_2.1 0).toInt ≤ 10 := by omega
    have p102182 : 0 ≤ N ∧ N ≤ 400 := by omega
    have p102183 : 0 ≤ R ∧ R ≤ 6 ∧ 0 ≤ W ∧ W ≤ 10 ∧ 0 ≤ R * W ∧ R * W ≤ 40 ∧ 0 ≤ D ∧ D ≤ 4 ∧ (D ≤ 0 ∨ 1 ≤ R) ∧ (1 ≤ R ∨ R * W = 0) := by omega
    have B102184 : mb (N) (R) (W) (D) ((va_up u_2.1 6 ((u_2.1 6) + r_5)), u_2.2.1, u_2.2.2.1, u_2.2.2.2) := ⟨p102180, p102181, p102182, p102183, q102165.2.2.2.2.1, q102165.2.2.2.2.2.1, q102165.2.2.2.2.2.2.1, q102165.2.2.2.2.2.2.2⟩
    have p102185 : ie [6] (va_up u_2.1 6 ((u_2.1 6) + r_5)) s0.1 := (ie_up (ie_tr q102166 (by decide) (ie_refl _ _)) (by decide))
    have p102186 : (r_1).toInt = 0 ∨ (r_1).toInt = 1 := by omega
    have e102187 := tq_add (u_2.1 6) r_5
    try rw [Int.emod_eq_of_lt (show 0 ≤ (u_2.1 6).toInt + (r_5).toInt + 2147483648 by omega) (show (u_2.1 6).toInt + (r_5).toInt + 2147483648 < 4294967296 by omega)] at e102187
    have p102188 : (s0.1 6).toInt ≤ ((u_2.1 6) + r_5).toInt ∧ ((u_2.1 6) + r_5).toInt ≤ N := by omega
    have p102189 : u_2.2 = s0.2 := q102170
    exact k _ _ B102184 p102185 p102186 p102188 p102189
theorem wq_X7_mustWord {post : Int32 → Md → Prop} {s0 : Md} {i1 : Nat} {N R W D : Int} (h102190 : mb (N) (R) (W) (D) s0) (h102191 : 0 ≤ (s0.1 6).toInt ∧ (s0.1 6).toInt ≤ N) (h102192 : 1 ≤ ln i1 ∧ ln i1 ≤ 9) (k : ∀ (r : Int32) (u : Md), mb (N) (R) (W) (D) u → ie [6, 7] u.1 s0.1 → (r).toInt = 0 ∨ (r).toInt = 1 → (s0.1 6).toInt ≤ (u.1 6).toInt ∧ (u.1 6).toInt ≤ N → u.2 = s0.2 → post r u) : wp_X7_mustWord post s0 i1 := by
  unfold wp_X7_mustWord
  have := h102190.1
  have := h102190.2.1
  have := h102190.2.2.1
  have := h102190.2.2.2.1
  have p102193 : 0 ≤ (s0.1 6).toInt ∧ (s0.1 6).toInt ≤ N := by omega
  have p102194 : 1 ≤ ln i1 ∧ ln i1 ≤ 9 := by first | assumption | decide
  refine wq_X7_takesWord h102190 p102193 p102194 (fun r_1 u_2 q102195 q102196 q102197 q102198 q102199 => ?_)
  have := q102195.1
  have := q102195.2.1
  refine ⟨fun c102200 => ?_, fun c102201 => ?_⟩
  · replace c102200 := q_neq c102200
    rw [li_0] at c102200
    have p102202 : ie [6, 7] u_2.1 s0.1 := (ie_tr q102196 (by decide) (ie_refl _ _))
    have p102203 : (1 : Int32).toInt = 0 ∨ (1 : Int32).toInt = 1 := by (have := li_1; omega)
    have p102204 : (s0.1 6).toInt ≤ (u_2.1 6).toInt ∧ (u_2.1 6).toInt ≤ N := by omega
    have p102205 : u_2.2 = s0.2 := q102199
    exact k _ _ q102195 p102202 p102203 p102204 p102205
  · replace c102201 := q_eq c102201
    rw [li_0] at c102201
    refine wq_X7_fails q102195 (fun r_4 u_5 q102206 q102207 q102208 q102209 => ?_)
    have := q102206.1
    have := q102206.2.1
    refine ⟨fun c102210 => ?_, fun c102211 => ?_⟩
    · replace c102210 := q_eq c102210
      rw [li_0] at c102210
      have p102212 : ie [6, 7] u_5.1 s0.1 := (ie_tr q102207 (by decide) (ie_tr q102196 (by decide) (ie_refl _ _)))
      have p102213 : (0 : Int32).toInt = 0 ∨ (0 : Int32).toInt = 1 := by (have := li_0; omega)
      have : (u_5.1 6).toInt = (u_2.1 6).toInt := ie_i q102207 6 (by decide)
      have p102214 : (s0.1 6).toInt ≤ (u_5.1 6).toInt ∧ (u_5.1 6).toInt ≤ N := by omega
      have p102215 : u_5.2 = s0.2 := (q102209.trans q102199)
      exact k _ _ q102206 p102212 p102213 p102214 p102215
    · replace c102211 := q_neq c102211
      rw [li_0] at c102211
      have p102216 : ie [6, 7] u_5.1 s0.1 := (ie_tr q102207 (by decide) (ie_tr q102196 (by decide) (ie_refl _ _)))
      have p102217 : (1 : Int32).toInt = 0 ∨ (1 : Int32).toInt = 1 := by (have := li_1; omega)
      have : (u_5.1 6).toInt = (u_2.1 6).toInt := ie_i q102207 6 (by decide)
      have p102218 : (s0.1 6).toInt ≤ (u_5.1 6).toInt ∧ (u_5.1 6).toInt ≤ N := by omega
      have p102219 : u_5.2 = s0.2 := (q102209.trans q102199)
      exact k _ _ q102206 p102216 p102217 p102218 p102219
theorem wq_X7_takesByte {post : Int32 → Md → Prop} {s0 : Md} {x1 : Int32} {N R W D : Int} (h : mb N R W D s0) (h6 : 0 ≤ (s0.1 6).toInt ∧ (s0.1 6).toInt ≤ N) (hx : ¬ x1.toInt = -1) (k : ∀ (r : Int32) (u : Md), mb N R W D u → ie [6] u.1 s0.1 → (s0.1 6).toInt ≤ (u.1 6).toInt ∧ (u.1 6).toInt ≤ N → (r.toInt = 0 ∨ (r.toInt = 1 ∧ (s0.1 6).toInt < (u.1 6).toInt)) → u.2 = s0.2 → (¬ tb7 s0 (s0.1 6) = 32 → ¬ tb7 s0 (s0.1 6) = x1 → r.toInt = 0) → post r u) : wp_X7_takesByte post s0 x1 := by
  unfold wp_X7_takesByte
  have e0 : (0 : Int32).toInt = 0 := rfl
  have e1 : (1 : Int32).toInt = 1 := rfl
  refine wq_X7_nextByte h h6 (fun r u hu ju b1 b2 bE b3 => ⟨fun c => k _ _ hu ju b1 (Or.inl e0) bE (fun _ _ => e0), fun c => ?_⟩)
  have c2 := q_eq c
  have pn := hu.2.2.1
  have s1 := nw (tq_addr e1 (u.1 6)) (by omega)
  have e6 : (((va_up u.1 6 ((u.1 6) + 1)), u.2.1, u.2.2.1, u.2.2.2) : Md).1 6 = u.1 6 + 1 := rfl
  refine k _ _ (mb_i hu rfl rfl rfl) (ie_up ju (by decide)) ?_ (Or.inr ⟨e1, ?_⟩) bE (fun g1 g2 => ?_)
  · rw [e6]
    omega
  · rw [e6]
    omega
  · exfalso
    have e := b3.2.2 g1
    have q := b3.1
    rw [e] at q
    exact g2 (q.symm.trans c)
theorem wq_X7_mustByte {post : Int32 → Md → Prop} {s0 : Md} {x1 : Int32} {N R W D : Int} (h : mb N R W D s0) (h6 : 0 ≤ (s0.1 6).toInt ∧ (s0.1 6).toInt ≤ N) (hx : ¬ x1.toInt = -1) (k : ∀ (r : Int32) (u : Md), mb N R W D u → ie [6, 7] u.1 s0.1 → (s0.1 6).toInt ≤ (u.1 6).toInt ∧ (u.1 6).toInt ≤ N → (r.toInt = 0 ∨ (r.toInt = 1 ∧ (s0.1 6).toInt < (u.1 6).toInt)) → u.2 = s0.2 → (¬ tb7 s0 (s0.1 6) = 32 → ¬ tb7 s0 (s0.1 6) = x1 → r.toInt = 0) → post r u) : wp_X7_mustByte post s0 x1 := by
  unfold wp_X7_mustByte
  have e0 : (0 : Int32).toInt = 0 := rfl
  have e1 : (1 : Int32).toInt = 1 := rfl
  refine wq_X7_takesByte h h6 hx (fun r u hu ju b1 b2 bE b3 => ⟨fun c => ?_, fun c => ?_⟩)
  · have c2 := q_neq c
    refine k _ _ hu (ie_tr ju (by decide) (ie_refl _ _)) b1 (Or.inr ⟨e1, by omega⟩) bE (fun g1 g2 => ?_)
    have := b3 g1 g2
    omega
  · unfold wp_X7_fails
    exact ⟨fun _ => k _ _ (mb_i hu rfl rfl rfl) (ie_up (ie_tr ju (by decide) (ie_refl _ _)) (by decide)) b1 (Or.inl e0) bE (fun _ _ => e0), fun g => absurd rfl g⟩
theorem wq_X7_readsNumber_L40 {post : Int32 → Md → Prop} {e107 : Md → Int32 → Int32 → Prop} {N R W D G Y Z : Int} {A : Nat → Int32} {B : Int64 × (Nat → Nat → Int64) × (Nat → Nat → Int32)} (ke107 : ∀ (t0 : Md) (z1 : Int32) (z2 : Int32), mb (N) (R) (W) (D) t0 → ie [6, 8] t0.1 A → 0 ≤ (t0.1 6).toInt ∧ (t0.1 6).toInt ≤ N ∧ G ≤ (t0.1 6).toInt → (z1).toInt = Y → (z2).toInt = Z → t0.2 = B → e107 t0 z1 z2) : ∀ (n : Nat) (t0 : Md) (z1 : Int32) (z2 : Int32), mb (N) (R) (W) (D) t0 → ie [6, 8] t0.1 A → 0 ≤ (t0.1 6).toInt ∧ (t0.1 6).toInt ≤ N ∧ G ≤ (t0.1 6).toInt → (z1).toInt = Y → (z2).toInt = Z → t0.2 = B → N - (t0.1 6).toInt < (n : Int) → wp_X7_readsNumber_L40 post e107 n t0 z1 z2 := by
  intro n
  induction n with
  | zero =>
    intro t0 z1 z2 i102220 i102221 i102222 i102223 i102224 i102225 i102226
    have := i102220.1
    have := i102220.2.1
    have := i102220.2.2.1
    have := i102220.2.2.2.1
    exfalso
    omega
  | succ n ih =>
    intro t0 z1 z2 i102220 i102221 i102222 i102223 i102224 i102225 i102226
    unfold wp_X7_readsNumber_L40
    have := i102220.1
    have := i102220.2.1
    have := i102220.2.2.1
    have := i102220.2.2.2.1
    have p102227 : 0 ≤ (t0.1 6).toInt := by omega
    refine wq_X7_byteAt i102220 p102227 (fun r_6 q102228 q102229 => ?_)
    refine wq_X7_in (fun r_8 q102230 => ?_)
    try simp only [lj_48, lj_57] at q102230
    have := tq_64 r_6
    refine ⟨fun c102231 => ?_, fun c102232 => ?_⟩
    · replace c102231 := q_eq c102231
      rw [li_0] at c102231
      have p102233 : ie [6, 8] t0.1 A := (ie_tr i102221 (by decide) (ie_refl _ _))
      have p102234 : 0 ≤ (t0.1 6).toInt ∧ (t0.1 6).toInt ≤ N ∧ G ≤ (t0.1 6).toInt := by omega
      have p102235 : (z1).toInt = Y := by omega
      have p102236 : (z2).toInt = Z := by omega
      have p102237 : t0.2 = B := i102225
      exact ke107 _ _ _ i102220 p102233 p102234 p102235 p102236 p102237
    · replace c102232 := q_neq c102232
      rw [li_0] at c102232
      refine ⟨fun c102238 => ?_, fun c102239 => ?_⟩
      · replace c102238 := q_le c102238
        rw [li_10000] at c102238
        have : (t0.1 5).toInt = (A 5).toInt := ie_i i102221 5 (by decide)
        have p102240 : (t0.1 5).toInt = N := by omega
        have : (t0.1 0).toInt = (A 0).toInt := ie_i i102221 0 (by decide)
        have p102241 : 0 ≤ (t0.1 0).toInt ∧ (t0.1 0).toInt ≤ 10 := by omega
        have p102242 : 0 ≤ N ∧ N ≤ 400 := by omega
        have p102243 : 0 ≤ R ∧ R ≤ 6 ∧ 0 ≤ W ∧ W ≤ 10 ∧ 0 ≤ R * W ∧ R * W ≤ 40 ∧ 0 ≤ D ∧ D ≤ 4 ∧ (D ≤ 0 ∨ 1 ≤ R) ∧ (1 ≤ R ∨ R * W = 0) := by omega
        have B102244 : mb (N) (R) (W) (D) ((va_up t0.1 6 ((t0.1 6) + 1)), t0.2.1, t0.2.2.1, t0.2.2.2) := ⟨p102240, p102241, p102242, p102243, i102220.2.2.2.2.1, i102220.2.2.2.2.2.1, i102220.2.2.2.2.2.2.1, i102220.2.2.2.2.2.2.2⟩
        have p102245 : ie [6, 8] (va_up t0.1 6 ((t0.1 6) + 1)) A := (ie_up (ie_tr i102221 (by decide) (ie_refl _ _)) (by decide))
        have e102246 := tq_addr li_1 (t0.1 6)
        try rw [Int.emod_eq_of_lt (show 0 ≤ (t0.1 6).toInt + 1 + 2147483648 by omega) (show (t0.1 6).toInt + 1 + 2147483648 < 4294967296 by omega)] at e102246
        have p102247 : 0 ≤ ((t0.1 6) + 1).toInt ∧ ((t0.1 6) + 1).toInt ≤ N ∧ G ≤ ((t0.1 6) + 1).toInt := by omega
        have p102248 : (z1).toInt = Y := by omega
        have p102249 : (z2).toInt = Z := by omega
        have p102250 : t0.2 = B := i102225
        have p102251 : N - ((t0.1 6) + 1).toInt < ((n : Nat) : Int) := by (omega)
        exact ih _ _ _ B102244 p102245 p102247 p102248 p102249 p102250 p102251
      · replace c102239 := q_nle c102239
        rw [li_10000] at c102239
        have p102252 : 0 ≤ (t0.1 6).toInt := by omega
        refine wq_X7_byteAt i102220 p102252 (fun r_12 q102253 q102254 => ?_)
        have : (t0.1 5).toInt = (A 5).toInt := ie_i i102221 5 (by decide)
        have p102255 : (t0.1 5).toInt = N := by omega
        have : (t0.1 0).toInt = (A 0).toInt := ie_i i102221 0 (by decide)
        have p102256 : 0 ≤ (t0.1 0).toInt ∧ (t0.1 0).toInt ≤ 10 := by omega
        have p102257 : 0 ≤ N ∧ N ≤ 400 := by omega
        have p102258 : 0 ≤ R ∧ R ≤ 6 ∧ 0 ≤ W ∧ W ≤ 10 ∧ 0 ≤ R * W ∧ R * W ≤ 40 ∧ 0 ≤ D ∧ D ≤ 4 ∧ (D ≤ 0 ∨ 1 ≤ R) ∧ (1 ≤ R ∨ R * W = 0) := by omega
        have B102259 : mb (N) (R) (W) (D) ((va_up (va_up t0.1 6 ((t0.1 6) + 1)) 8 (((10 * (t0.1 8)) + r_12) - 48)), t0.2.1, t0.2.2.1, t0.2.2.2) := ⟨p102255, p102256, p102257, p102258, i102220.2.2.2.2.1, i102220.2.2.2.2.2.1, i102220.2.2.2.2.2.2.1, i102220.2.2.2.2.2.2.2⟩
        have p102260 : ie [6, 8] (va_up (va_up t0.1 6 ((t0.1 6) + 1)) 8 (((10 * (t0.1 8)) + r_12) - 48)) A := (ie_up (ie_up (ie_tr i102221 (by decide) (ie_refl _ _)) (by decide)) (by decide))
        have e102261 := tq_addr li_1 (t0.1 6)
        try rw [Int.emod_eq_of_lt (show 0 ≤ (t0.1 6).toInt + 1 + 2147483648 by omega) (show (t0.1 6).toInt + 1 + 2147483648 < 4294967296 by omega)] at e102261
        have p102262 : 0 ≤ ((t0.1 6) + 1).toInt ∧ ((t0.1 6) + 1).toInt ≤ N ∧ G ≤ ((t0.1 6) + 1).toInt := by omega
        have p102263 : (z1).toInt = Y := by omega
        have p102264 : (z2).toInt = Z := by omega
        have p102265 : t0.2 = B := i102225
        have p102266 : N - ((t0.1 6) + 1).toInt < ((n : Nat) : Int) := by (omega)
        exact ih _ _ _ B102259 p102260 p102262 p102263 p102264 p102265 p102266

theorem wq_X7_readsNumber {post : Int32 → Md → Prop} {s0 : Md} {x1 : Int32} {x2 : Int32} {N R W D : Int} (h102267 : mb (N) (R) (W) (D) s0) (h102268 : 0 ≤ (s0.1 6).toInt ∧ (s0.1 6).toInt ≤ N) (k : ∀ (r : Int32) (u : Md), mb (N) (R) (W) (D) u → ie [6, 7, 8, 9] u.1 s0.1 → (r).toInt = 0 ∨ (r).toInt = 1 → (s0.1 6).toInt ≤ (u.1 6).toInt ∧ (u.1 6).toInt ≤ N → (r).toInt = 0 ∨ ((x1).toInt ≤ (u.1 8).toInt ∧ (u.1 8).toInt ≤ (x2).toInt) → u.2 = s0.2 → post r u) : wp_X7_readsNumber post s0 x1 x2 := by
  unfold wp_X7_readsNumber
  have := h102267.1
  have := h102267.2.1
  have := h102267.2.2.1
  have := h102267.2.2.2.1
  have p102269 : 0 ≤ (s0.1 6).toInt ∧ (s0.1 6).toInt ≤ N := by omega
  refine wq_X7_nextByte h102267 p102269 (fun r_1 u_2 q102270 q102271 q102272 q102273 q102274 q102275 => ?_)
  have := q102270.1
  have := q102270.2.1
  refine wq_X7_in (fun r_3 q102276 => ?_)
  try simp only [lj_48, lj_57] at q102276
  have := tq_64 r_1
  refine ⟨fun c102277 => ?_, fun c102278 => ?_⟩
  · replace c102277 := q_neq c102277
    rw [li_0] at c102277
    have : (u_2.1 5).toInt = (s0.1 5).toInt := ie_i q102271 5 (by decide)
    have p102279 : (u_2.1 5).toInt = N := by omega
    have : (u_2.1 0).toInt = (s0.1 0).toInt := ie_i q102271 0 (by decide)
    have p102280 : 0 ≤ (u_2.1 0).toInt ∧ (u_2.1 0).toInt ≤ 10 := by omega
    have p102281 : 0 ≤ N ∧ N ≤ 400 := by omega
    have p102282 : 0 ≤ R ∧ R ≤ 6 ∧ 0 ≤ W ∧ W ≤ 10 ∧ 0 ≤ R * W ∧ R * W ≤ 40 ∧ 0 ≤ D ∧ D ≤ 4 ∧ (D ≤ 0 ∨ 1 ≤ R) ∧ (1 ≤ R ∨ R * W = 0) := by omega
    have B102283 : mb (N) (R) (W) (D) ((va_up (va_up u_2.1 8 0) 9 (u_2.1 6)), u_2.2.1, u_2.2.2.1, u_2.2.2.2) := ⟨p102279, p102280, p102281, p102282, q102270.2.2.2.2.1, q102270.2.2.2.2.2.1, q102270.2.2.2.2.2.2.1, q102270.2.2.2.2.2.2.2⟩
    have p102284 : ie [6, 8] (va_up (va_up u_2.1 8 0) 9 (u_2.1 6)) (va_up (va_up u_2.1 8 0) 9 (u_2.1 6)) := (ie_refl _ _)
    have p102285 : 0 ≤ (u_2.1 6).toInt ∧ (u_2.1 6).toInt ≤ N ∧ ((u_2.1 6).toInt) ≤ (u_2.1 6).toInt := by omega
    have p102286 : (x1).toInt = ((x1).toInt) := by omega
    have p102287 : (x2).toInt = ((x2).toInt) := by omega
    have p102288 : u_2.2 = u_2.2 := rfl
    obtain ⟨f102289, g102290⟩ := fu_e 500
    have p102291 : N - (u_2.1 6).toInt < (f102289 : Int) := by (omega)
    refine ⟨f102289, wq_X7_readsNumber_L40 (fun t0 z1 z2 q102292 q102293 q102294 q102295 q102296 q102297 => ?_) f102289 _ _ _ B102283 p102284 p102285 p102286 p102287 p102288 p102291⟩
    have := q102292.1
    have := q102292.2.1
    refine wq_X7_in (fun r_14 q102298 => ?_)
    have := tq_64 z1
    have := tq_64 (t0.1 8)
    have := tq_64 z2
    refine ⟨fun c102299 => ?_, fun c102300 => ?_⟩
    · replace c102299 := q_neq c102299
      rw [li_0] at c102299
      have p102301 : ie [6, 7, 8, 9] t0.1 s0.1 := (ie_tr q102293 (by decide) (ie_up (ie_up (ie_tr q102271 (by decide) (ie_refl _ _)) (by decide)) (by decide)))
      have p102302 : (1 : Int32).toInt = 0 ∨ (1 : Int32).toInt = 1 := by (have := li_1; omega)
      have p102303 : (s0.1 6).toInt ≤ (t0.1 6).toInt ∧ (t0.1 6).toInt ≤ N := by omega
      have p102304 : (1 : Int32).toInt = 0 ∨ ((x1).toInt ≤ (t0.1 8).toInt ∧ (t0.1 8).toInt ≤ (x2).toInt) := by (have := li_1; omega)
      have p102305 : t0.2 = s0.2 := (q102297.trans q102274)
      exact k _ _ q102292 p102301 p102302 p102303 p102304 p102305
    · replace c102300 := q_eq c102300
      rw [li_0] at c102300
      refine wq_X7_fails q102292 (fun r_17 u_18 q102306 q102307 q102308 q102309 => ?_)
      have := q102306.1
      have := q102306.2.1
      refine ⟨fun c102310 => ?_, fun c102311 => ?_⟩
      · replace c102310 := q_eq c102310
        rw [li_0] at c102310
        have p102312 : ie [6, 7, 8, 9] u_18.1 s0.1 := (ie_tr q102307 (by decide) (ie_tr q102293 (by decide) (ie_up (ie_up (ie_tr q102271 (by decide) (ie_refl _ _)) (by decide)) (by decide))))
        have p102313 : (0 : Int32).toInt = 0 ∨ (0 : Int32).toInt = 1 := by (have := li_0; omega)
        have : (u_18.1 6).toInt = (t0.1 6).toInt := ie_i q102307 6 (by decide)
        have p102314 : (s0.1 6).toInt ≤ (u_18.1 6).toInt ∧ (u_18.1 6).toInt ≤ N := by omega
        have : (u_18.1 8).toInt = (t0.1 8).toInt := ie_i q102307 8 (by decide)
        have p102315 : (0 : Int32).toInt = 0 ∨ ((x1).toInt ≤ (u_18.1 8).toInt ∧ (u_18.1 8).toInt ≤ (x2).toInt) := by (have := li_0; omega)
        have p102316 : u_18.2 = s0.2 := (q102309.trans (q102297.trans q102274))
        exact k _ _ q102306 p102312 p102313 p102314 p102315 p102316
      · replace c102311 := q_neq c102311
        rw [li_0] at c102311
        have p102317 : ie [6, 7, 8, 9] u_18.1 s0.1 := (ie_tr q102307 (by decide) (ie_tr q102293 (by decide) (ie_up (ie_up (ie_tr q102271 (by decide) (ie_refl _ _)) (by decide)) (by decide))))
        have p102318 : (1 : Int32).toInt = 0 ∨ (1 : Int32).toInt = 1 := by (have := li_1; omega)
        have : (u_18.1 6).toInt = (t0.1 6).toInt := ie_i q102307 6 (by decide)
        have p102319 : (s0.1 6).toInt ≤ (u_18.1 6).toInt ∧ (u_18.1 6).toInt ≤ N := by omega
        have : (u_18.1 8).toInt = (t0.1 8).toInt := ie_i q102307 8 (by decide)
        have p102320 : (1 : Int32).toInt = 0 ∨ ((x1).toInt ≤ (u_18.1 8).toInt ∧ (u_18.1 8).toInt ≤ (x2).toInt) := by (have := li_1; omega)
        have p102321 : u_18.2 = s0.2 := (q102309.trans (q102297.trans q102274))
        exact k _ _ q102306 p102317 p102318 p102319 p102320 p102321
  · replace c102278 := q_eq c102278
    rw [li_0] at c102278
    refine wq_X7_fails q102270 (fun r_20 u_21 q102322 q102323 q102324 q102325 => ?_)
    have := q102322.1
    have := q102322.2.1
    refine ⟨(nb_b (by omega)), ?_⟩
    have p102326 : ie [6, 7, 8, 9] u_21.1 s0.1 := (ie_tr q102323 (by decide) (ie_tr q102271 (by decide) (ie_refl _ _)))
    have p102327 : (r_20).toInt = 0 ∨ (r_20).toInt = 1 := by omega
    have : (u_21.1 6).toInt = (u_2.1 6).toInt := ie_i q102323 6 (by decide)
    have p102328 : (s0.1 6).toInt ≤ (u_21.1 6).toInt ∧ (u_21.1 6).toInt ≤ N := by omega
    have : (u_21.1 8).toInt = (u_2.1 8).toInt := ie_i q102323 8 (by decide)
    have : (u_2.1 8).toInt = (s0.1 8).toInt := ie_i q102271 8 (by decide)
    have p102329 : (r_20).toInt = 0 ∨ ((x1).toInt ≤ (u_21.1 8).toInt ∧ (u_21.1 8).toInt ≤ (x2).toInt) := by omega
    have p102330 : u_21.2 = s0.2 := (q102325.trans q102274)
    exact k _ _ q102322 p102326 p102327 p102328 p102329 p102330
theorem wq_X7_readsQuoted_L24 {post : Int32 → Md → Prop} {e102 : Md → Int32 → Int32 → Prop} {N R W D G Y Z : Int} {A : Nat → Int32} {B : Int64 × (Nat → Nat → Int64) × (Nat → Nat → Int32)} (ke102 : ∀ (t0 : Md) (z1 : Int32) (z2 : Int32), t0.2 = B → mb (N) (R) (W) (D) t0 → ie [6, 11] t0.1 A → 0 ≤ (t0.1 10).toInt ∧ 0 ≤ (t0.1 11).toInt ∧ (t0.1 11).toInt ≤ (z2).toInt ∧ (t0.1 6).toInt = (t0.1 10).toInt + (t0.1 11).toInt ∧ (t0.1 6).toInt < N ∧ G ≤ (t0.1 6).toInt → (z1).toInt = Y → (z2).toInt = Z → e102 t0 z1 z2) (k : ∀ (r : Int32) (u : Md), mb (N) (R) (W) (D) u → ie [6, 7, 11] u.1 A → (r).toInt = 0 → G ≤ (u.1 6).toInt ∧ (u.1 6).toInt ≤ N → u.2 = B → post r u) : ∀ (n : Nat) (t0 : Md) (z1 : Int32) (z2 : Int32), mb (N) (R) (W) (D) t0 → ie [6, 11] t0.1 A → 0 ≤ (t0.1 10).toInt ∧ 0 ≤ (t0.1 11).toInt ∧ (t0.1 11).toInt ≤ (z2).toInt ∧ (t0.1 6).toInt = (t0.1 10).toInt + (t0.1 11).toInt ∧ (t0.1 6).toInt ≤ N ∧ G ≤ (t0.1 6).toInt → (z1).toInt = Y → (z2).toInt = Z → t0.2 = B → N - (t0.1 6).toInt < (n : Int) → wp_X7_readsQuoted_L24 post e102 n t0 z1 z2 := by
  intro n
  induction n with
  | zero =>
    intro t0 z1 z2 i102331 i102332 i102333 i102334 i102335 i102336 i102337
    have := i102331.1
    have := i102331.2.1
    have := i102331.2.2.1
    have := i102331.2.2.2.1
    have : (t0.1 10).toInt = (A 10).toInt := ie_i i102332 10 (by decide)
    exfalso
    omega
  | succ n ih =>
    intro t0 z1 z2 i102331 i102332 i102333 i102334 i102335 i102336 i102337
    unfold wp_X7_readsQuoted_L24
    have := i102331.1
    have := i102331.2.1
    have := i102331.2.2.1
    have := i102331.2.2.2.1
    have : (t0.1 10).toInt = (A 10).toInt := ie_i i102332 10 (by decide)
    have p102338 : 0 ≤ (t0.1 6).toInt := by omega
    refine wq_X7_byteAt i102331 p102338 (fun r_4 q102339 q102340 => ?_)
    refine ⟨fun c102341 => ?_, fun c102342 => ?_⟩
    · replace c102341 := q_eq c102341
      rw [li_39] at c102341
      have p102343 : t0.2 = B := i102336
      have p102344 : ie [6, 11] t0.1 A := (ie_tr i102332 (by decide) (ie_refl _ _))
      have p102345 : 0 ≤ (t0.1 10).toInt ∧ 0 ≤ (t0.1 11).toInt ∧ (t0.1 11).toInt ≤ (z2).toInt ∧ (t0.1 6).toInt = (t0.1 10).toInt + (t0.1 11).toInt ∧ (t0.1 6).toInt < N ∧ G ≤ (t0.1 6).toInt := by omega
      have p102346 : (z1).toInt = Y := by omega
      have p102347 : (z2).toInt = Z := by omega
      exact ke102 _ _ _ p102343 i102331 p102344 p102345 p102346 p102347
    · replace c102342 := q_neq c102342
      rw [li_39] at c102342
      have p102348 : 0 ≤ (t0.1 6).toInt := by omega
      refine wq_X7_byteAt i102331 p102348 (fun r_7 q102349 q102350 => ?_)
      refine wq_X7_isSign (fun r_9 q102351 => ?_)
      refine ⟨fun c102352 => ?_, fun c102353 => ?_⟩
      · replace c102352 := q_neq c102352
        rw [li_0] at c102352
        refine ⟨fun c102354 => ?_, fun c102355 => ?_⟩
        · replace c102354 := q_neq c102354
          have : (t0.1 5).toInt = (A 5).toInt := ie_i i102332 5 (by decide)
          have p102356 : (t0.1 5).toInt = N := by omega
          have : (t0.1 0).toInt = (A 0).toInt := ie_i i102332 0 (by decide)
          have p102357 : 0 ≤ (t0.1 0).toInt ∧ (t0.1 0).toInt ≤ 10 := by omega
          have p102358 : 0 ≤ N ∧ N ≤ 400 := by omega
          have p102359 : 0 ≤ R ∧ R ≤ 6 ∧ 0 ≤ W ∧ W ≤ 10 ∧ 0 ≤ R * W ∧ R * W ≤ 40 ∧ 0 ≤ D ∧ D ≤ 4 ∧ (D ≤ 0 ∨ 1 ≤ R) ∧ (1 ≤ R ∨ R * W = 0) := by omega
          have B102360 : mb (N) (R) (W) (D) ((va_up (va_up t0.1 6 ((t0.1 6) + 1)) 11 ((t0.1 11) + 1)), t0.2.1, t0.2.2.1, t0.2.2.2) := ⟨p102356, p102357, p102358, p102359, i102331.2.2.2.2.1, i102331.2.2.2.2.2.1, i102331.2.2.2.2.2.2.1, i102331.2.2.2.2.2.2.2⟩
          have p102361 : ie [6, 11] (va_up (va_up t0.1 6 ((t0.1 6) + 1)) 11 ((t0.1 11) + 1)) A := (ie_up (ie_up (ie_tr i102332 (by decide) (ie_refl _ _)) (by decide)) (by decide))
          have e102362 := tq_addr li_1 (t0.1 11)
          try rw [Int.emod_eq_of_lt (show 0 ≤ (t0.1 11).toInt + 1 + 2147483648 by omega) (show (t0.1 11).toInt + 1 + 2147483648 < 4294967296 by omega)] at e102362
          have e102363 := tq_addr li_1 (t0.1 6)
          try rw [Int.emod_eq_of_lt (show 0 ≤ (t0.1 6).toInt + 1 + 2147483648 by omega) (show (t0.1 6).toInt + 1 + 2147483648 < 4294967296 by omega)] at e102363
          have p102364 : 0 ≤ (t0.1 10).toInt ∧ 0 ≤ ((t0.1 11) + 1).toInt ∧ ((t0.1 11) + 1).toInt ≤ (z2).toInt ∧ ((t0.1 6) + 1).toInt = (t0.1 10).toInt + ((t0.1 11) + 1).toInt ∧ ((t0.1 6) + 1).toInt ≤ N ∧ G ≤ ((t0.1 6) + 1).toInt := by omega
          have p102365 : (z1).toInt = Y := by omega
          have p102366 : (z2).toInt = Z := by omega
          have p102367 : t0.2 = B := i102336
          have p102368 : N - ((t0.1 6) + 1).toInt < ((n : Nat) : Int) := by (omega)
          exact ih _ _ _ B102360 p102361 p102364 p102365 p102366 p102367 p102368
        · replace c102355 := q_eq c102355
          refine wq_X7_fails i102331 (fun r_13 u_14 q102369 q102370 q102371 q102372 => ?_)
          have := q102369.1
          have := q102369.2.1
          refine ⟨(nb_b (by omega)), ?_⟩
          have p102373 : ie [6, 7, 11] u_14.1 A := (ie_tr q102370 (by decide) (ie_tr i102332 (by decide) (ie_refl _ _)))
          have p102374 : (r_13).toInt = 0 := by omega
          have : (u_14.1 6).toInt = (t0.1 6).toInt := ie_i q102370 6 (by decide)
          have p102375 : G ≤ (u_14.1 6).toInt ∧ (u_14.1 6).toInt ≤ N := by omega
          have p102376 : u_14.2 = B := (q102372.trans i102336)
          exact k _ _ q102369 p102373 p102374 p102375 p102376
      · replace c102353 := q_eq c102353
        rw [li_0] at c102353
        refine wq_X7_fails i102331 (fun r_16 u_17 q102377 q102378 q102379 q102380 => ?_)
        have := q102377.1
        have := q102377.2.1
        refine ⟨(nb_b (by omega)), ?_⟩
        have p102381 : ie [6, 7, 11] u_17.1 A := (ie_tr q102378 (by decide) (ie_tr i102332 (by decide) (ie_refl _ _)))
        have p102382 : (r_16).toInt = 0 := by omega
        have : (u_17.1 6).toInt = (t0.1 6).toInt := ie_i q102378 6 (by decide)
        have p102383 : G ≤ (u_17.1 6).toInt ∧ (u_17.1 6).toInt ≤ N := by omega
        have p102384 : u_17.2 = B := (q102380.trans i102336)
        exact k _ _ q102377 p102381 p102382 p102383 p102384
theorem wq_X7_readsQuoted {post : Int32 → Md → Prop} {s0 : Md} {x1 : Int32} {x2 : Int32} {N R W D : Int} (h102385 : mb (N) (R) (W) (D) s0) (h102386 : 0 ≤ (s0.1 6).toInt ∧ (s0.1 6).toInt ≤ N) (h102387 : 0 ≤ (x2).toInt) (k : ∀ (r : Int32) (u : Md), mb (N) (R) (W) (D) u → ie [6, 7, 10, 11] u.1 s0.1 → (r).toInt = 0 ∨ (r).toInt = 1 → (s0.1 6).toInt ≤ (u.1 6).toInt ∧ (u.1 6).toInt ≤ N → (r).toInt = 0 ∨ (0 ≤ (u.1 10).toInt ∧ 0 ≤ (u.1 11).toInt ∧ (u.1 10).toInt + (u.1 11).toInt ≤ N ∧ (x1).toInt ≤ (u.1 11).toInt ∧ (u.1 11).toInt ≤ (x2).toInt) → u.2 = s0.2 → post r u) : wp_X7_readsQuoted post s0 x1 x2 := by
  unfold wp_X7_readsQuoted
  have := h102385.1
  have := h102385.2.1
  have := h102385.2.2.1
  have := h102385.2.2.2.1
  have p102388 : 0 ≤ (s0.1 6).toInt ∧ (s0.1 6).toInt ≤ N := by omega
  have p102389 : ¬ ((39 : Int32)).toInt = -1 := by (have := li_39; omega)
  refine wq_X7_mustByte h102385 p102388 p102389 (fun r_1 u_2 q102390 q102391 q102392 q102393 q102394 q102395 => ?_)
  have := q102390.1
  have := q102390.2.1
  refine ⟨fun c102396 => ?_, fun c102397 => ?_⟩
  · replace c102396 := q_neq c102396
    rw [li_0] at c102396
    have : (u_2.1 5).toInt = (s0.1 5).toInt := ie_i q102391 5 (by decide)
    have p102398 : (u_2.1 5).toInt = N := by omega
    have : (u_2.1 0).toInt = (s0.1 0).toInt := ie_i q102391 0 (by decide)
    have p102399 : 0 ≤ (u_2.1 0).toInt ∧ (u_2.1 0).toInt ≤ 10 := by omega
    have p102400 : 0 ≤ N ∧ N ≤ 400 := by omega
    have p102401 : 0 ≤ R ∧ R ≤ 6 ∧ 0 ≤ W ∧ W ≤ 10 ∧ 0 ≤ R * W ∧ R * W ≤ 40 ∧ 0 ≤ D ∧ D ≤ 4 ∧ (D ≤ 0 ∨ 1 ≤ R) ∧ (1 ≤ R ∨ R * W = 0) := by omega
    have B102402 : mb (N) (R) (W) (D) ((va_up (va_up u_2.1 10 (u_2.1 6)) 11 0), u_2.2.1, u_2.2.2.1, u_2.2.2.2) := ⟨p102398, p102399, p102400, p102401, q102390.2.2.2.2.1, q102390.2.2.2.2.2.1, q102390.2.2.2.2.2.2.1, q102390.2.2.2.2.2.2.2⟩
    have p102403 : ie [6, 11] (va_up (va_up u_2.1 10 (u_2.1 6)) 11 0) (va_up (va_up u_2.1 10 (u_2.1 6)) 11 0) := (ie_refl _ _)
    have p102404 : 0 ≤ (u_2.1 6).toInt ∧ 0 ≤ (0 : Int32).toInt ∧ (0 : Int32).toInt ≤ (x2).toInt ∧ (u_2.1 6).toInt = (u_2.1 6).toInt + (0 : Int32).toInt ∧ (u_2.1 6).toInt ≤ N ∧ ((u_2.1 6).toInt) ≤ (u_2.1 6).toInt := by (have := li_0; omega)
    have p102405 : (x1).toInt = ((x1).toInt) := by omega
    have p102406 : (x2).toInt = ((x2).toInt) := by omega
    have p102407 : u_2.2 = u_2.2 := rfl
    obtain ⟨f102408, g102409⟩ := fu_e 500
    have p102410 : N - (u_2.1 6).toInt < (f102408 : Int) := by (omega)
    refine ⟨f102408, wq_X7_readsQuoted_L24 (fun t0 z1 z2 q102411 q102412 q102413 q102414 q102415 q102416 => ?_) (fun r102417 u102418 q102419 q102420 q102421 q102422 q102423 => ?_) f102408 _ _ _ B102402 p102403 p102404 p102405 p102406 p102407 p102410⟩
    · have := q102412.1
      have := q102412.2.1
      have : (t0.1 10).toInt = (u_2.1 6).toInt := ie_i q102413 10 (by decide)
      refine ⟨fun c102424 => ?_, fun c102425 => ?_⟩
      · replace c102424 := q_le c102424
        have : (t0.1 5).toInt = (u_2.1 5).toInt := ie_i q102413 5 (by decide)
        have p102426 : (t0.1 5).toInt = N := by omega
        have : (t0.1 0).toInt = (u_2.1 0).toInt := ie_i q102413 0 (by decide)
        have p102427 : 0 ≤ (t0.1 0).toInt ∧ (t0.1 0).toInt ≤ 10 := by omega
        have p102428 : 0 ≤ N ∧ N ≤ 400 := by omega
        have p102429 : 0 ≤ R ∧ R ≤ 6 ∧ 0 ≤ W ∧ W ≤ 10 ∧ 0 ≤ R * W ∧ R * W ≤ 40 ∧ 0 ≤ D ∧ D ≤ 4 ∧ (D ≤ 0 ∨ 1 ≤ R) ∧ (1 ≤ R ∨ R * W = 0) := by omega
        have B102430 : mb (N) (R) (W) (D) ((va_up t0.1 6 ((t0.1 6) + 1)), t0.2.1, t0.2.2.1, t0.2.2.2) := ⟨p102426, p102427, p102428, p102429, q102412.2.2.2.2.1, q102412.2.2.2.2.2.1, q102412.2.2.2.2.2.2.1, q102412.2.2.2.2.2.2.2⟩
        have p102431 : ie [6, 7, 10, 11] (va_up t0.1 6 ((t0.1 6) + 1)) s0.1 := (ie_up (ie_tr q102413 (by decide) (ie_up (ie_up (ie_tr q102391 (by decide) (ie_refl _ _)) (by decide)) (by decide))) (by decide))
        have p102432 : (1 : Int32).toInt = 0 ∨ (1 : Int32).toInt = 1 := by (have := li_1; omega)
        have e102433 := tq_addr li_1 (t0.1 6)
        try rw [Int.emod_eq_of_lt (show 0 ≤ (t0.1 6).toInt + 1 + 2147483648 by omega) (show (t0.1 6).toInt + 1 + 2147483648 < 4294967296 by omega)] at e102433
        have p102434 : (s0.1 6).toInt ≤ ((t0.1 6) + 1).toInt ∧ ((t0.1 6) + 1).toInt ≤ N := by omega
        have p102435 : (1 : Int32).toInt = 0 ∨ (0 ≤ (t0.1 10).toInt ∧ 0 ≤ (t0.1 11).toInt ∧ (t0.1 10).toInt + (t0.1 11).toInt ≤ N ∧ (x1).toInt ≤ (t0.1 11).toInt ∧ (t0.1 11).toInt ≤ (x2).toInt) := by (have := li_1; omega)
        have p102436 : t0.2 = s0.2 := (q102411.trans q102394)
        exact k _ _ B102430 p102431 p102432 p102434 p102435 p102436
      · replace c102425 := q_nle c102425
        refine wq_X7_fails q102412 (fun r_20 u_21 q102437 q102438 q102439 q102440 => ?_)
        have := q102437.1
        have := q102437.2.1
        refine ⟨(nb_b (by omega)), ?_⟩
        have p102441 : ie [6, 7, 10, 11] u_21.1 s0.1 := (ie_tr q102438 (by decide) (ie_tr q102413 (by decide) (ie_up (ie_up (ie_tr q102391 (by decide) (ie_refl _ _)) (by decide)) (by decide))))
        have p102442 : (r_20).toInt = 0 ∨ (r_20).toInt = 1 := by omega
        have : (u_21.1 6).toInt = (t0.1 6).toInt := ie_i q102438 6 (by decide)
        have p102443 : (s0.1 6).toInt ≤ (u_21.1 6).toInt ∧ (u_21.1 6).toInt ≤ N := by omega
        have : (u_21.1 10).toInt = (t0.1 10).toInt := ie_i q102438 10 (by decide)
        have : (u_21.1 11).toInt = (t0.1 11).toInt := ie_i q102438 11 (by decide)
        have p102444 : (r_20).toInt = 0 ∨ (0 ≤ (u_21.1 10).toInt ∧ 0 ≤ (u_21.1 11).toInt ∧ (u_21.1 10).toInt + (u_21.1 11).toInt ≤ N ∧ (x1).toInt ≤ (u_21.1 11).toInt ∧ (u_21.1 11).toInt ≤ (x2).toInt) := by omega
        have p102445 : u_21.2 = s0.2 := (q102440.trans (q102411.trans q102394))
        exact k _ _ q102437 p102441 p102442 p102443 p102444 p102445
    · have := q102419.1
      have := q102419.2.1
      have p102446 : ie [6, 7, 10, 11] u102418.1 s0.1 := (ie_tr q102420 (by decide) (ie_up (ie_up (ie_tr q102391 (by decide) (ie_refl _ _)) (by decide)) (by decide)))
      have p102447 : (r102417).toInt = 0 ∨ (r102417).toInt = 1 := by omega
      have p102448 : (s0.1 6).toInt ≤ (u102418.1 6).toInt ∧ (u102418.1 6).toInt ≤ N := by omega
      have : (u102418.1 10).toInt = (u_2.1 6).toInt := ie_i q102420 10 (by decide)
      have p102449 : (r102417).toInt = 0 ∨ (0 ≤ (u102418.1 10).toInt ∧ 0 ≤ (u102418.1 11).toInt ∧ (u102418.1 10).toInt + (u102418.1 11).toInt ≤ N ∧ (x1).toInt ≤ (u102418.1 11).toInt ∧ (u102418.1 11).toInt ≤ (x2).toInt) := by omega
      have p102450 : u102418.2 = s0.2 := (q102423.trans q102394)
      exact k _ _ q102419 p102446 p102447 p102448 p102449 p102450
  · replace c102397 := q_eq c102397
    rw [li_0] at c102397
    have p102451 : ie [6, 7, 10, 11] u_2.1 s0.1 := (ie_tr q102391 (by decide) (ie_refl _ _))
    have p102452 : (0 : Int32).toInt = 0 ∨ (0 : Int32).toInt = 1 := by (have := li_0; omega)
    have p102453 : (s0.1 6).toInt ≤ (u_2.1 6).toInt ∧ (u_2.1 6).toInt ≤ N := by omega
    have : (u_2.1 10).toInt = (s0.1 10).toInt := ie_i q102391 10 (by decide)
    have : (u_2.1 11).toInt = (s0.1 11).toInt := ie_i q102391 11 (by decide)
    have p102454 : (0 : Int32).toInt = 0 ∨ (0 ≤ (u_2.1 10).toInt ∧ 0 ≤ (u_2.1 11).toInt ∧ (u_2.1 10).toInt + (u_2.1 11).toInt ≤ N ∧ (x1).toInt ≤ (u_2.1 11).toInt ∧ (u_2.1 11).toInt ≤ (x2).toInt) := by (have := li_0; omega)
    have p102455 : u_2.2 = s0.2 := q102394
    exact k _ _ q102390 p102451 p102452 p102453 p102454 p102455

theorem wq_X7_readsWorn {post : Int32 → Md → Prop} {s0 : Md} {N R W D : Int} (h102456 : mb (N) (R) (W) (D) s0) (h102457 : 0 < D) (h102458 : R ≤ 0 ∨ 0 < D) (h102459 : 0 ≤ (s0.1 6).toInt ∧ (s0.1 6).toInt + 4 ≤ N) (k : ∀ (r : Int32) (u : Md), mb (N) (R) (W) (D) u → ie [1, 2, 6, 7, 8, 9, 10, 11, 12, 13] u.1 s0.1 → (r).toInt = 0 ∨ (r).toInt = 1 → (s0.1 6).toInt ≤ (u.1 6).toInt ∧ (u.1 6).toInt ≤ N → post r u) : wp_X7_readsWorn post s0 := by
  unfold wp_X7_readsWorn
  have := h102456.1
  have := h102456.2.1
  have := h102456.2.2.1
  have := h102456.2.2.2.1
  have p102460 : (s0.1 5).toInt = N := by omega
  have p102461 : 0 ≤ (s0.1 0).toInt ∧ (s0.1 0).toInt ≤ 10 := by omega
  have p102462 : 0 ≤ N ∧ N ≤ 400 := by omega
  have p102463 : 0 ≤ R ∧ R ≤ 6 ∧ 0 ≤ W ∧ W ≤ 10 ∧ 0 ≤ R * W ∧ R * W ≤ 40 ∧ 0 ≤ D ∧ D ≤ 4 ∧ (D ≤ 0 ∨ 1 ≤ R) ∧ (1 ≤ R ∨ R * W = 0) := by omega
  have B102464 : mb (N) (R) (W) (D) ((va_up s0.1 6 ((s0.1 6) + 4)), s0.2.1, s0.2.2.1, s0.2.2.2) := ⟨p102460, p102461, p102462, p102463, h102456.2.2.2.2.1, h102456.2.2.2.2.2.1, h102456.2.2.2.2.2.2.1, h102456.2.2.2.2.2.2.2⟩
  refine wq_X7_cells B102464 (fun r_1 q102465 => ?_)
  replace q102465 : (r_1).toInt = R * W := q102465
  have e102466 := tq_addr li_4 (s0.1 6)
  try rw [Int.emod_eq_of_lt (show 0 ≤ (s0.1 6).toInt + 4 + 2147483648 by omega) (show (s0.1 6).toInt + 4 + 2147483648 < 4294967296 by omega)] at e102466
  have p102467 : 0 ≤ ((s0.1 6) + 4).toInt ∧ ((s0.1 6) + 4).toInt ≤ N := by omega
  refine wq_X7_readsNumber B102464 p102467 (fun r_3 u_4 q102468 q102469 q102470 q102471 q102472 q102473 => ?_)
  have := q102468.1
  have := q102468.2.1
  replace q102470 : (r_3).toInt = 0 ∨ (r_3).toInt = 1 := q102470
  replace q102471 : ((s0.1 6) + 4).toInt ≤ (u_4.1 6).toInt ∧ (u_4.1 6).toInt ≤ N := q102471
  replace q102472 : (r_3).toInt = 0 ∨ (((0 : Int32)).toInt ≤ (u_4.1 8).toInt ∧ (u_4.1 8).toInt ≤ (r_1 - 1).toInt) := q102472
  try simp only [li_0] at q102472
  have e102474 := tq_subr li_1 r_1
  try rw [Int.emod_eq_of_lt (show 0 ≤ (r_1).toInt - 1 + 2147483648 by omega) (show (r_1).toInt - 1 + 2147483648 < 4294967296 by omega)] at e102474
  refine ⟨fun c102475 => ?_, fun c102476 => ?_⟩
  · replace c102475 := q_neq c102475
    rw [li_0] at c102475
    have p102477 : 0 ≤ (u_4.1 8).toInt ∧ (u_4.1 8).toInt < 40 := by omega
    refine wq_X7_flaps q102468 p102477 (fun r_6 q102478 => ?_)
    have p102479 : 0 ≤ (u_4.1 6).toInt ∧ (u_4.1 6).toInt ≤ N := by omega
    refine wq_X7_readsNumber q102468 p102479 (fun r_8 u_9 q102480 q102481 q102482 q102483 q102484 q102485 => ?_)
    have := q102480.1
    have := q102480.2.1
    try simp only [li_1] at q102484
    have e102486 := tq_subr li_1 r_6
    try rw [Int.emod_eq_of_lt (show 0 ≤ (r_6).toInt - 1 + 2147483648 by omega) (show (r_6).toInt - 1 + 2147483648 < 4294967296 by omega)] at e102486
    refine ⟨fun c102487 => ?_, fun c102488 => ?_⟩
    · replace c102487 := q_neq c102487
      rw [li_0] at c102487
      have p102489 : 0 ≤ (u_4.1 8).toInt ∧ (u_4.1 8).toInt < 40 := by omega
      refine wq_X7_wornOf p102489 (fun r_11 => ?_)
      refine wq_X7_isIn (fun r_13 q102490 => ?_)
      refine ⟨fun c102491 => ?_, fun c102492 => ?_⟩
      · replace c102491 := q_eq c102491
        rw [li_0] at c102491
        have p102493 : 0 ≤ (u_4.1 8).toInt ∧ (u_4.1 8).toInt < 40 := by omega
        have p102494 : 0 < D := by omega
        refine wq_X7_wears q102480 p102493 p102494 (fun u_17 q102495 q102496 => ?_)
        have := q102495.1
        have := q102495.2.1
        have p102497 : ie [1, 2, 6, 7, 8, 9, 10, 11, 12, 13] u_17.1 s0.1 := (ie_tr q102496 (by decide) (ie_tr q102481 (by decide) (ie_tr q102469 (by decide) (ie_up (ie_refl _ _) (by decide)))))
        have p102498 : (1 : Int32).toInt = 0 ∨ (1 : Int32).toInt = 1 := by (have := li_1; omega)
        have : (u_17.1 6).toInt = (u_9.1 6).toInt := ie_i q102496 6 (by decide)
        have p102499 : (s0.1 6).toInt ≤ (u_17.1 6).toInt ∧ (u_17.1 6).toInt ≤ N := by omega
        exact k _ _ q102495 p102497 p102498 p102499
      · replace c102492 := q_neq c102492
        rw [li_0] at c102492
        refine wq_X7_fails q102480 (fun r_18 u_19 q102500 q102501 q102502 q102503 => ?_)
        have := q102500.1
        have := q102500.2.1
        refine ⟨(nb_b (by omega)), ?_⟩
        have p102504 : ie [1, 2, 6, 7, 8, 9, 10, 11, 12, 13] u_19.1 s0.1 := (ie_tr q102501 (by decide) (ie_tr q102481 (by decide) (ie_tr q102469 (by decide) (ie_up (ie_refl _ _) (by decide)))))
        have p102505 : (r_18).toInt = 0 ∨ (r_18).toInt = 1 := by omega
        have : (u_19.1 6).toInt = (u_9.1 6).toInt := ie_i q102501 6 (by decide)
        have p102506 : (s0.1 6).toInt ≤ (u_19.1 6).toInt ∧ (u_19.1 6).toInt ≤ N := by omega
        exact k _ _ q102500 p102504 p102505 p102506
    · replace c102488 := q_eq c102488
      rw [li_0] at c102488
      have p102507 : ie [1, 2, 6, 7, 8, 9, 10, 11, 12, 13] u_9.1 s0.1 := (ie_tr q102481 (by decide) (ie_tr q102469 (by decide) (ie_up (ie_refl _ _) (by decide))))
      have p102508 : (0 : Int32).toInt = 0 ∨ (0 : Int32).toInt = 1 := by (have := li_0; omega)
      have p102509 : (s0.1 6).toInt ≤ (u_9.1 6).toInt ∧ (u_9.1 6).toInt ≤ N := by omega
      exact k _ _ q102480 p102507 p102508 p102509
  · replace c102476 := q_eq c102476
    rw [li_0] at c102476
    have p102510 : ie [1, 2, 6, 7, 8, 9, 10, 11, 12, 13] u_4.1 s0.1 := (ie_tr q102469 (by decide) (ie_up (ie_refl _ _) (by decide)))
    have p102511 : (0 : Int32).toInt = 0 ∨ (0 : Int32).toInt = 1 := by (have := li_0; omega)
    have p102512 : (s0.1 6).toInt ≤ (u_4.1 6).toInt ∧ (u_4.1 6).toInt ≤ N := by omega
    exact k _ _ q102468 p102510 p102511 p102512
theorem wq_X7_readsRow_L62 {post : Int32 → Md → Prop} {e116 : Md → Int32 → Int32 → Int32 → Prop} {D N R W : Int} {A : Nat → Int32} (h102513 : 0 < D) (ke116 : ∀ (t0 : Md) (z1 : Int32) (z2 : Int32) (z3 : Int32), mb (N) (R) (W) (D) t0 → ie [] t0.1 A → 0 ≤ (z1).toInt ∧ (z1).toInt < R → 0 ≤ (z3).toInt ∧ (z3).toInt ≤ W → e116 t0 z1 z2 z3) : ∀ (n : Nat) (t0 : Md) (z1 : Int32) (z2 : Int32) (z3 : Int32), mb (N) (R) (W) (D) t0 → ie [] t0.1 A → 0 ≤ (z1).toInt ∧ (z1).toInt < R → 0 ≤ (z3).toInt ∧ (z3).toInt ≤ W → W - (z3).toInt < (n : Int) → wp_X7_readsRow_L62 post e116 n t0 z1 z2 z3 := by
  intro n
  induction n with
  | zero =>
    intro t0 z1 z2 z3 i102514 i102515 i102516 i102517 i102518
    have := i102514.1
    have := i102514.2.1
    have := i102514.2.2.1
    have := i102514.2.2.2.1
    exfalso
    omega
  | succ n ih =>
    intro t0 z1 z2 z3 i102514 i102515 i102516 i102517 i102518
    unfold wp_X7_readsRow_L62
    have := i102514.1
    have := i102514.2.1
    have := i102514.2.2.1
    have := i102514.2.2.2.1
    refine wq_X7_wide i102514 (fun r_13 q102519 => ?_)
    refine ⟨fun c102520 => ?_, fun c102521 => ?_⟩
    · replace c102520 := q_le c102520
      have p102522 : ie [] t0.1 A := (ie_tr i102515 (by decide) (ie_refl _ _))
      have p102523 : 0 ≤ (z1).toInt ∧ (z1).toInt < R := by omega
      have p102524 : 0 ≤ (z3).toInt ∧ (z3).toInt ≤ W := by omega
      exact ke116 _ _ _ _ i102514 p102522 p102523 p102524
    · replace c102521 := q_nle c102521
      refine wq_X7_wide i102514 (fun r_16 q102525 => ?_)
      have := rw_r (a := z1) (b := r_16) (R := R) (W := W) (by omega) (by omega) (by omega)
      have e102526 := tq_add (r_16 * z1) z3
      try rw [Int.emod_eq_of_lt (show 0 ≤ (r_16 * z1).toInt + (z3).toInt + 2147483648 by omega) (show (r_16 * z1).toInt + (z3).toInt + 2147483648 < 4294967296 by omega)] at e102526
      have p102527 : 0 ≤ ((r_16 * z1) + z3).toInt ∧ ((r_16 * z1) + z3).toInt < 40 := by omega
      refine wq_X7_of_3 i102514 p102527 (fun r_18 q102528 q102529 => ?_)
      have p102530 : 0 ≤ ((r_16 * z1) + z3).toInt ∧ ((r_16 * z1) + z3).toInt < 40 := by omega
      have := tq_64 r_18
      try have := rw_k i102514.2.2.2.2.1 (show 0 ≤ (((r_16 * z1) + z3)).toInt ∧ (((r_16 * z1) + z3)).toInt < 40 by omega)
      have p102531 : 0 ≤ (Int32.toInt64 r_18).toInt ∧ ((D ≤ 0 ∧ (Int32.toInt64 r_18).toInt = 0) ∨ (0 < D ∧ (Int32.toInt64 r_18).toInt < fl_c ((t0.2.2.1 0)) ((r_16 * z1) + z3))) := by omega
      refine wq_X7_sets_1 i102514 p102530 p102531 (fun u_21 q102532 q102533 q102534 => ?_)
      have := q102532.1
      have := q102532.2.1
      have p102535 : 0 ≤ ((r_16 * z1) + z3).toInt ∧ ((r_16 * z1) + z3).toInt < 40 := by omega
      refine wq_X7_of_3 q102532 p102535 (fun r_22 q102536 q102537 => ?_)
      have p102538 : 0 ≤ ((r_16 * z1) + z3).toInt ∧ ((r_16 * z1) + z3).toInt < 40 := by omega
      have := tq_64 r_22
      try have := rw_k q102532.2.2.2.2.1 (show 0 ≤ (((r_16 * z1) + z3)).toInt ∧ (((r_16 * z1) + z3)).toInt < 40 by omega)
      have p102539 : 0 ≤ (Int32.toInt64 r_22).toInt ∧ ((D ≤ 0 ∧ (Int32.toInt64 r_22).toInt = 0) ∨ (0 < D ∧ (Int32.toInt64 r_22).toInt < fl_c ((u_21.2.2.1 0)) ((r_16 * z1) + z3))) := by omega
      refine wq_X7_sets_2 q102532 p102538 p102539 (fun u_25 q102540 q102541 q102542 => ?_)
      have := q102540.1
      have := q102540.2.1
      have p102543 : ie [] u_25.1 A := (ie_tr q102541 (by decide) (ie_tr q102533 (by decide) (ie_tr i102515 (by decide) (ie_refl _ _))))
      have p102544 : 0 ≤ (z1).toInt ∧ (z1).toInt < R := by omega
      have e102545 := tq_addr li_1 z3
      try rw [Int.emod_eq_of_lt (show 0 ≤ (z3).toInt + 1 + 2147483648 by omega) (show (z3).toInt + 1 + 2147483648 < 4294967296 by omega)] at e102545
      have p102546 : 0 ≤ (z3 + 1).toInt ∧ (z3 + 1).toInt ≤ W := by omega
      have p102547 : W - (z3 + 1).toInt < ((n : Nat) : Int) := by (omega)
      exact ih _ _ _ _ q102540 p102543 p102544 p102546 p102547
theorem wq_X7_readsRow {post : Int32 → Md → Prop} {s0 : Md} {N R W D : Int} (h102548 : mb (N) (R) (W) (D) s0) (h102549 : 0 < D) (h102550 : 0 ≤ (s0.1 6).toInt ∧ (s0.1 6).toInt + 3 ≤ N) (k : ∀ (r : Int32) (u : Md), mb (N) (R) (W) (D) u → ie [1, 2, 6, 7, 8, 9, 10, 11, 12, 13] u.1 s0.1 → (r).toInt = 0 ∨ (r).toInt = 1 → (s0.1 6).toInt ≤ (u.1 6).toInt ∧ (u.1 6).toInt ≤ N → post r u) : wp_X7_readsRow post s0 := by
  unfold wp_X7_readsRow
  have := h102548.1
  have := h102548.2.1
  have := h102548.2.2.1
  have := h102548.2.2.2.1
  have p102551 : (s0.1 5).toInt = N := by omega
  have p102552 : 0 ≤ (s0.1 0).toInt ∧ (s0.1 0).toInt ≤ 10 := by omega
  have p102553 : 0 ≤ N ∧ N ≤ 400 := by omega
  have p102554 : 0 ≤ R ∧ R ≤ 6 ∧ 0 ≤ W ∧ W ≤ 10 ∧ 0 ≤ R * W ∧ R * W ≤ 40 ∧ 0 ≤ D ∧ D ≤ 4 ∧ (D ≤ 0 ∨ 1 ≤ R) ∧ (1 ≤ R ∨ R * W = 0) := by omega
  have B102555 : mb (N) (R) (W) (D) ((va_up s0.1 6 ((s0.1 6) + 3)), s0.2.1, s0.2.2.1, s0.2.2.2) := ⟨p102551, p102552, p102553, p102554, h102548.2.2.2.2.1, h102548.2.2.2.2.2.1, h102548.2.2.2.2.2.2.1, h102548.2.2.2.2.2.2.2⟩
  refine wq_X7_rows B102555 (fun r_1 q102556 => ?_)
  replace q102556 : (r_1).toInt = R := q102556
  have e102557 := tq_addr li_3 (s0.1 6)
  try rw [Int.emod_eq_of_lt (show 0 ≤ (s0.1 6).toInt + 3 + 2147483648 by omega) (show (s0.1 6).toInt + 3 + 2147483648 < 4294967296 by omega)] at e102557
  have p102558 : 0 ≤ ((s0.1 6) + 3).toInt ∧ ((s0.1 6) + 3).toInt ≤ N := by omega
  refine wq_X7_readsNumber B102555 p102558 (fun r_3 u_4 q102559 q102560 q102561 q102562 q102563 q102564 => ?_)
  have := q102559.1
  have := q102559.2.1
  replace q102561 : (r_3).toInt = 0 ∨ (r_3).toInt = 1 := q102561
  replace q102562 : ((s0.1 6) + 3).toInt ≤ (u_4.1 6).toInt ∧ (u_4.1 6).toInt ≤ N := q102562
  replace q102563 : (r_3).toInt = 0 ∨ (((0 : Int32)).toInt ≤ (u_4.1 8).toInt ∧ (u_4.1 8).toInt ≤ (r_1 - 1).toInt) := q102563
  try simp only [li_0] at q102563
  have e102565 := tq_subr li_1 r_1
  try rw [Int.emod_eq_of_lt (show 0 ≤ (r_1).toInt - 1 + 2147483648 by omega) (show (r_1).toInt - 1 + 2147483648 < 4294967296 by omega)] at e102565
  refine ⟨fun c102566 => ?_, fun c102567 => ?_⟩
  · replace c102566 := q_neq c102566
    rw [li_0] at c102566
    refine wq_X7_wide q102559 (fun r_6 q102568 => ?_)
    have p102569 : 0 ≤ (u_4.1 6).toInt ∧ (u_4.1 6).toInt ≤ N := by omega
    have p102570 : 0 ≤ (r_6).toInt := by omega
    refine wq_X7_readsQuoted q102559 p102569 p102570 (fun r_8 u_9 q102571 q102572 q102573 q102574 q102575 q102576 => ?_)
    have := q102571.1
    have := q102571.2.1
    try simp only [li_0] at q102575
    refine ⟨fun c102577 => ?_, fun c102578 => ?_⟩
    · replace c102577 := q_neq c102577
      rw [li_0] at c102577
      have p102579 : 0 < D := by omega
      have p102580 : 0 ≤ (u_4.1 8).toInt ∧ (u_4.1 8).toInt < R := by omega
      have p102581 : 0 ≤ (u_9.1 10).toInt ∧ 0 ≤ (u_9.1 11).toInt ∧ (u_9.1 10).toInt + (u_9.1 11).toInt ≤ 400 := by omega
      refine wq_X7_wantsSigns q102571 p102579 p102580 p102581 (fun r_11 u_12 q102582 q102583 => ?_)
      have := q102582.1
      have := q102582.2.1
      have p102584 : 0 < D := by omega
      have p102585 : ie [] u_12.1 u_12.1 := (ie_refl _ _)
      have p102586 : 0 ≤ (u_4.1 8).toInt ∧ (u_4.1 8).toInt < R := by omega
      have p102587 : 0 ≤ (0 : Int32).toInt ∧ (0 : Int32).toInt ≤ W := by (have := li_0; omega)
      obtain ⟨f102588, g102589⟩ := fu_e 50
      have p102590 : W - (0 : Int32).toInt < (f102588 : Int) := by (have := li_0; omega)
      refine ⟨f102588, wq_X7_readsRow_L62 p102584 (fun t0 z1 z2 z3 q102591 q102592 q102593 q102594 => ?_) f102588 _ _ _ _ q102582 p102585 p102586 p102587 p102590⟩
      have := q102591.1
      have := q102591.2.1
      have p102595 : ie [1, 2, 6, 7, 8, 9, 10, 11, 12, 13] t0.1 s0.1 := (ie_tr q102592 (by decide) (ie_tr q102583 (by decide) (ie_tr q102572 (by decide) (ie_tr q102560 (by decide) (ie_up (ie_refl _ _) (by decide))))))
      have p102596 : (1 : Int32).toInt = 0 ∨ (1 : Int32).toInt = 1 := by (have := li_1; omega)
      have : (t0.1 6).toInt = (u_12.1 6).toInt := ie_i q102592 6 (by decide)
      have : (u_12.1 6).toInt = (u_9.1 6).toInt := ie_i q102583 6 (by decide)
      have p102597 : (s0.1 6).toInt ≤ (t0.1 6).toInt ∧ (t0.1 6).toInt ≤ N := by omega
      exact k _ _ q102591 p102595 p102596 p102597
    · replace c102578 := q_eq c102578
      rw [li_0] at c102578
      have p102598 : ie [1, 2, 6, 7, 8, 9, 10, 11, 12, 13] u_9.1 s0.1 := (ie_tr q102572 (by decide) (ie_tr q102560 (by decide) (ie_up (ie_refl _ _) (by decide))))
      have p102599 : (0 : Int32).toInt = 0 ∨ (0 : Int32).toInt = 1 := by (have := li_0; omega)
      have p102600 : (s0.1 6).toInt ≤ (u_9.1 6).toInt ∧ (u_9.1 6).toInt ≤ N := by omega
      exact k _ _ q102571 p102598 p102599 p102600
  · replace c102567 := q_eq c102567
    rw [li_0] at c102567
    have p102601 : ie [1, 2, 6, 7, 8, 9, 10, 11, 12, 13] u_4.1 s0.1 := (ie_tr q102560 (by decide) (ie_up (ie_refl _ _) (by decide)))
    have p102602 : (0 : Int32).toInt = 0 ∨ (0 : Int32).toInt = 1 := by (have := li_0; omega)
    have p102603 : (s0.1 6).toInt ≤ (u_4.1 6).toInt ∧ (u_4.1 6).toInt ≤ N := by omega
    exact k _ _ q102559 p102601 p102602 p102603
theorem wq_X7_readsLose {post : Int32 → Md → Prop} {s0 : Md} {N R W D : Int} (h102604 : mb (N) (R) (W) (D) s0) (h102605 : 0 ≤ (s0.1 6).toInt ∧ (s0.1 6).toInt + 4 ≤ N) (k : ∀ (r : Int32) (u : Md), mb (N) (R) (W) (D) u → ie [1, 2, 6, 7, 8, 9, 10, 11, 12, 13] u.1 s0.1 → (r).toInt = 0 ∨ (r).toInt = 1 → (s0.1 6).toInt ≤ (u.1 6).toInt ∧ (u.1 6).toInt ≤ N → (r).toInt = 0 ∨ (0 ≤ (u.1 12).toInt ∧ (u.1 12).toInt < R * W ∧ 0 ≤ (u.1 8).toInt ∧ (u.1 8).toInt ≤ 9) → post r u) : wp_X7_readsLose post s0 := by
  unfold wp_X7_readsLose
  have := h102604.1
  have := h102604.2.1
  have := h102604.2.2.1
  have := h102604.2.2.2.1
  have p102606 : (s0.1 5).toInt = N := by omega
  have p102607 : 0 ≤ (s0.1 0).toInt ∧ (s0.1 0).toInt ≤ 10 := by omega
  have p102608 : 0 ≤ N ∧ N ≤ 400 := by omega
  have p102609 : 0 ≤ R ∧ R ≤ 6 ∧ 0 ≤ W ∧ W ≤ 10 ∧ 0 ≤ R * W ∧ R * W ≤ 40 ∧ 0 ≤ D ∧ D ≤ 4 ∧ (D ≤ 0 ∨ 1 ≤ R) ∧ (1 ≤ R ∨ R * W = 0) := by omega
  have B102610 : mb (N) (R) (W) (D) ((va_up s0.1 6 ((s0.1 6) + 4)), s0.2.1, s0.2.2.1, s0.2.2.2) := ⟨p102606, p102607, p102608, p102609, h102604.2.2.2.2.1, h102604.2.2.2.2.2.1, h102604.2.2.2.2.2.2.1, h102604.2.2.2.2.2.2.2⟩
  refine wq_X7_cells B102610 (fun r_1 q102611 => ?_)
  replace q102611 : (r_1).toInt = R * W := q102611
  have e102612 := tq_addr li_4 (s0.1 6)
  try rw [Int.emod_eq_of_lt (show 0 ≤ (s0.1 6).toInt + 4 + 2147483648 by omega) (show (s0.1 6).toInt + 4 + 2147483648 < 4294967296 by omega)] at e102612
  have p102613 : 0 ≤ ((s0.1 6) + 4).toInt ∧ ((s0.1 6) + 4).toInt ≤ N := by omega
  refine wq_X7_readsNumber B102610 p102613 (fun r_3 u_4 q102614 q102615 q102616 q102617 q102618 q102619 => ?_)
  have := q102614.1
  have := q102614.2.1
  replace q102616 : (r_3).toInt = 0 ∨ (r_3).toInt = 1 := q102616
  replace q102617 : ((s0.1 6) + 4).toInt ≤ (u_4.1 6).toInt ∧ (u_4.1 6).toInt ≤ N := q102617
  replace q102618 : (r_3).toInt = 0 ∨ (((0 : Int32)).toInt ≤ (u_4.1 8).toInt ∧ (u_4.1 8).toInt ≤ (r_1 - 1).toInt) := q102618
  try simp only [li_0] at q102618
  have e102620 := tq_subr li_1 r_1
  try rw [Int.emod_eq_of_lt (show 0 ≤ (r_1).toInt - 1 + 2147483648 by omega) (show (r_1).toInt - 1 + 2147483648 < 4294967296 by omega)] at e102620
  refine ⟨fun c102621 => ?_, fun c102622 => ?_⟩
  · replace c102621 := q_neq c102621
    rw [li_0] at c102621
    have : (u_4.1 5).toInt = (s0.1 5).toInt := ie_i q102615 5 (by decide)
    have p102623 : (u_4.1 5).toInt = N := by omega
    have : (u_4.1 0).toInt = (s0.1 0).toInt := ie_i q102615 0 (by decide)
    have p102624 : 0 ≤ (u_4.1 0).toInt ∧ (u_4.1 0).toInt ≤ 10 := by omega
    have p102625 : 0 ≤ N ∧ N ≤ 400 := by omega
    have p102626 : 0 ≤ R ∧ R ≤ 6 ∧ 0 ≤ W ∧ W ≤ 10 ∧ 0 ≤ R * W ∧ R * W ≤ 40 ∧ 0 ≤ D ∧ D ≤ 4 ∧ (D ≤ 0 ∨ 1 ≤ R) ∧ (1 ≤ R ∨ R * W = 0) := by omega
    have B102627 : mb (N) (R) (W) (D) ((va_up u_4.1 12 (u_4.1 8)), u_4.2.1, u_4.2.2.1, u_4.2.2.2) := ⟨p102623, p102624, p102625, p102626, q102614.2.2.2.2.1, q102614.2.2.2.2.2.1, q102614.2.2.2.2.2.2.1, q102614.2.2.2.2.2.2.2⟩
    have p102628 : 0 ≤ (u_4.1 6).toInt ∧ (u_4.1 6).toInt ≤ N := by omega
    refine wq_X7_readsNumber B102627 p102628 (fun r_6 u_7 q102629 q102630 q102631 q102632 q102633 q102634 => ?_)
    have := q102629.1
    have := q102629.2.1
    replace q102631 : (r_6).toInt = 0 ∨ (r_6).toInt = 1 := q102631
    replace q102632 : (u_4.1 6).toInt ≤ (u_7.1 6).toInt ∧ (u_7.1 6).toInt ≤ N := q102632
    replace q102633 : (r_6).toInt = 0 ∨ (((0 : Int32)).toInt ≤ (u_7.1 8).toInt ∧ (u_7.1 8).toInt ≤ ((9 : Int32)).toInt) := q102633
    try simp only [li_0, li_9] at q102633
    refine ⟨(nb_b (by omega)), ?_⟩
    have p102635 : ie [1, 2, 6, 7, 8, 9, 10, 11, 12, 13] u_7.1 s0.1 := (ie_tr q102630 (by decide) (ie_up (ie_tr q102615 (by decide) (ie_up (ie_refl _ _) (by decide))) (by decide)))
    have p102636 : (r_6).toInt = 0 ∨ (r_6).toInt = 1 := by omega
    have p102637 : (s0.1 6).toInt ≤ (u_7.1 6).toInt ∧ (u_7.1 6).toInt ≤ N := by omega
    have : (u_7.1 12).toInt = (u_4.1 8).toInt := ie_i q102630 12 (by decide)
    have p102638 : (r_6).toInt = 0 ∨ (0 ≤ (u_7.1 12).toInt ∧ (u_7.1 12).toInt < R * W ∧ 0 ≤ (u_7.1 8).toInt ∧ (u_7.1 8).toInt ≤ 9) := by omega
    exact k _ _ q102629 p102635 p102636 p102637 p102638
  · replace c102622 := q_eq c102622
    rw [li_0] at c102622
    have p102639 : ie [1, 2, 6, 7, 8, 9, 10, 11, 12, 13] u_4.1 s0.1 := (ie_tr q102615 (by decide) (ie_up (ie_refl _ _) (by decide)))
    have p102640 : (0 : Int32).toInt = 0 ∨ (0 : Int32).toInt = 1 := by (have := li_0; omega)
    have p102641 : (s0.1 6).toInt ≤ (u_4.1 6).toInt ∧ (u_4.1 6).toInt ≤ N := by omega
    have : (u_4.1 12).toInt = (s0.1 12).toInt := ie_i q102615 12 (by decide)
    have p102642 : (0 : Int32).toInt = 0 ∨ (0 ≤ (u_4.1 12).toInt ∧ (u_4.1 12).toInt < R * W ∧ 0 ≤ (u_4.1 8).toInt ∧ (u_4.1 8).toInt ≤ 9) := by (have := li_0; omega)
    exact k _ _ q102614 p102639 p102640 p102641 p102642
theorem wq_X7_isDone {post : Int32 → Md → Prop} {s0 : Md} {x1 : Int32} {N R W D : Int} (h102643 : mb (N) (R) (W) (D) s0) (k : ∀ (r : Int32) (u : Md), mb (N) (R) (W) (D) u → ie [13] u.1 s0.1 → (r).toInt = 0 ∨ (r).toInt = 1 → post r u) : wp_X7_isDone post s0 x1 := by
  unfold wp_X7_isDone
  have := h102643.1
  have := h102643.2.1
  have := h102643.2.2.1
  have := h102643.2.2.2.1
  refine ⟨fun c102644 => ?_, fun c102645 => ?_⟩
  · replace c102644 := q_eq c102644
    rw [li_0] at c102644
    have p102646 : ie [13] s0.1 s0.1 := (ie_refl _ _)
    have p102647 : (0 : Int32).toInt = 0 ∨ (0 : Int32).toInt = 1 := by (have := li_0; omega)
    exact k _ _ h102643 p102646 p102647
  · replace c102645 := q_neq c102645
    rw [li_0] at c102645
    refine ⟨fun c102648 => ?_, fun c102649 => ?_⟩
    · replace c102648 := q_neq c102648
      rw [li_200] at c102648
      have p102650 : (s0.1 5).toInt = N := by omega
      have p102651 : 0 ≤ (s0.1 0).toInt ∧ (s0.1 0).toInt ≤ 10 := by omega
      have p102652 : 0 ≤ N ∧ N ≤ 400 := by omega
      have p102653 : 0 ≤ R ∧ R ≤ 6 ∧ 0 ≤ W ∧ W ≤ 10 ∧ 0 ≤ R * W ∧ R * W ≤ 40 ∧ 0 ≤ D ∧ D ≤ 4 ∧ (D ≤ 0 ∨ 1 ≤ R) ∧ (1 ≤ R ∨ R * W = 0) := by omega
      have B102654 : mb (N) (R) (W) (D) ((va_up s0.1 13 ((s0.1 13) + 1)), s0.2.1, s0.2.2.1, s0.2.2.2) := ⟨p102650, p102651, p102652, p102653, h102643.2.2.2.2.1, h102643.2.2.2.2.2.1, h102643.2.2.2.2.2.2.1, h102643.2.2.2.2.2.2.2⟩
      have p102655 : ie [13] (va_up s0.1 13 ((s0.1 13) + 1)) s0.1 := (ie_up (ie_refl _ _) (by decide))
      have p102656 : (1 : Int32).toInt = 0 ∨ (1 : Int32).toInt = 1 := by (have := li_1; omega)
      exact k _ _ B102654 p102655 p102656
    · replace c102649 := q_eq c102649
      rw [li_200] at c102649
      have p102657 : ie [13] s0.1 s0.1 := (ie_refl _ _)
      have p102658 : (0 : Int32).toInt = 0 ∨ (0 : Int32).toInt = 1 := by (have := li_0; omega)
      exact k _ _ h102643 p102657 p102658
theorem wq_X7_goesRow {post : Int32 → Md → Prop} {s0 : Md} {x1 : Int32} {N R W D : Int} (h102659 : mb (N) (R) (W) (D) s0) (h102660 : 0 < D) (h102661 : 0 ≤ (s0.1 6).toInt ∧ (s0.1 6).toInt + 3 ≤ N) (k : ∀ (r : Int32) (u : Md), mb (N) (R) (W) (D) u → ie [1, 2, 6, 7, 8, 9, 10, 11, 12, 13] u.1 s0.1 → (r).toInt = 0 ∨ (r).toInt = 1 → (s0.1 6).toInt ≤ (u.1 6).toInt ∧ (u.1 6).toInt ≤ N → post r u) : wp_X7_goesRow post s0 x1 := by
  unfold wp_X7_goesRow
  have := h102659.1
  have := h102659.2.1
  have := h102659.2.2.1
  have := h102659.2.2.2.1
  have p102662 : (s0.1 5).toInt = N := by omega
  have p102663 : 0 ≤ (s0.1 0).toInt ∧ (s0.1 0).toInt ≤ 10 := by omega
  have p102664 : 0 ≤ N ∧ N ≤ 400 := by omega
  have p102665 : 0 ≤ R ∧ R ≤ 6 ∧ 0 ≤ W ∧ W ≤ 10 ∧ 0 ≤ R * W ∧ R * W ≤ 40 ∧ 0 ≤ D ∧ D ≤ 4 ∧ (D ≤ 0 ∨ 1 ≤ R) ∧ (1 ≤ R ∨ R * W = 0) := by omega
  have B102666 : mb (N) (R) (W) (D) ((va_up s0.1 6 ((s0.1 6) + 3)), s0.2.1, s0.2.2.1, s0.2.2.2) := ⟨p102662, p102663, p102664, p102665, h102659.2.2.2.2.1, h102659.2.2.2.2.2.1, h102659.2.2.2.2.2.2.1, h102659.2.2.2.2.2.2.2⟩
  refine wq_X7_rows B102666 (fun r_1 q102667 => ?_)
  replace q102667 : (r_1).toInt = R := q102667
  have e102668 := tq_addr li_3 (s0.1 6)
  try rw [Int.emod_eq_of_lt (show 0 ≤ (s0.1 6).toInt + 3 + 2147483648 by omega) (show (s0.1 6).toInt + 3 + 2147483648 < 4294967296 by omega)] at e102668
  have p102669 : 0 ≤ ((s0.1 6) + 3).toInt ∧ ((s0.1 6) + 3).toInt ≤ N := by omega
  refine wq_X7_readsNumber B102666 p102669 (fun r_3 u_4 q102670 q102671 q102672 q102673 q102674 q102675 => ?_)
  have := q102670.1
  have := q102670.2.1
  replace q102672 : (r_3).toInt = 0 ∨ (r_3).toInt = 1 := q102672
  replace q102673 : ((s0.1 6) + 3).toInt ≤ (u_4.1 6).toInt ∧ (u_4.1 6).toInt ≤ N := q102673
  replace q102674 : (r_3).toInt = 0 ∨ (((0 : Int32)).toInt ≤ (u_4.1 8).toInt ∧ (u_4.1 8).toInt ≤ (r_1 - 1).toInt) := q102674
  try simp only [li_0] at q102674
  have e102676 := tq_subr li_1 r_1
  try rw [Int.emod_eq_of_lt (show 0 ≤ (r_1).toInt - 1 + 2147483648 by omega) (show (r_1).toInt - 1 + 2147483648 < 4294967296 by omega)] at e102676
  refine ⟨fun c102677 => ?_, fun c102678 => ?_⟩
  · replace c102677 := q_neq c102677
    rw [li_0] at c102677
    refine wq_X7_wide q102670 (fun r_6 q102679 => ?_)
    have p102680 : 0 ≤ (u_4.1 6).toInt ∧ (u_4.1 6).toInt ≤ N := by omega
    have p102681 : 0 ≤ (r_6).toInt := by omega
    refine wq_X7_readsQuoted q102670 p102680 p102681 (fun r_8 u_9 q102682 q102683 q102684 q102685 q102686 q102687 => ?_)
    have := q102682.1
    have := q102682.2.1
    try simp only [li_0] at q102686
    refine ⟨fun c102688 => ?_, fun c102689 => ?_⟩
    · replace c102688 := q_neq c102688
      rw [li_0] at c102688
      refine wq_X7_isDone q102682 (fun r_11 u_12 q102690 q102691 q102692 => ?_)
      have := q102690.1
      have := q102690.2.1
      refine ⟨fun c102693 => ?_, fun c102694 => ?_⟩
      · replace c102693 := q_eq c102693
        rw [li_0] at c102693
        have p102695 : ie [1, 2, 6, 7, 8, 9, 10, 11, 12, 13] u_12.1 s0.1 := (ie_tr q102691 (by decide) (ie_tr q102683 (by decide) (ie_tr q102671 (by decide) (ie_up (ie_refl _ _) (by decide)))))
        have p102696 : (1 : Int32).toInt = 0 ∨ (1 : Int32).toInt = 1 := by (have := li_1; omega)
        have : (u_12.1 6).toInt = (u_9.1 6).toInt := ie_i q102691 6 (by decide)
        have p102697 : (s0.1 6).toInt ≤ (u_12.1 6).toInt ∧ (u_12.1 6).toInt ≤ N := by omega
        exact k _ _ q102690 p102695 p102696 p102697
      · replace c102694 := q_neq c102694
        rw [li_0] at c102694
        have p102698 : 0 < D := by omega
        have p102699 : 0 ≤ (u_4.1 8).toInt ∧ (u_4.1 8).toInt < R := by omega
        have : (u_12.1 10).toInt = (u_9.1 10).toInt := ie_i q102691 10 (by decide)
        have : (u_12.1 11).toInt = (u_9.1 11).toInt := ie_i q102691 11 (by decide)
        have p102700 : 0 ≤ (u_12.1 10).toInt ∧ 0 ≤ (u_12.1 11).toInt ∧ (u_12.1 10).toInt + (u_12.1 11).toInt ≤ 400 := by omega
        refine wq_X7_wantsSigns q102690 p102698 p102699 p102700 (fun r_14 u_15 q102701 q102702 => ?_)
        have := q102701.1
        have := q102701.2.1
        have p102703 : ie [1, 2, 6, 7, 8, 9, 10, 11, 12, 13] u_15.1 s0.1 := (ie_tr q102702 (by decide) (ie_tr q102691 (by decide) (ie_tr q102683 (by decide) (ie_tr q102671 (by decide) (ie_up (ie_refl _ _) (by decide))))))
        have p102704 : (1 : Int32).toInt = 0 ∨ (1 : Int32).toInt = 1 := by (have := li_1; omega)
        have : (u_15.1 6).toInt = (u_12.1 6).toInt := ie_i q102702 6 (by decide)
        have : (u_12.1 6).toInt = (u_9.1 6).toInt := ie_i q102691 6 (by decide)
        have p102705 : (s0.1 6).toInt ≤ (u_15.1 6).toInt ∧ (u_15.1 6).toInt ≤ N := by omega
        exact k _ _ q102701 p102703 p102704 p102705
    · replace c102689 := q_eq c102689
      rw [li_0] at c102689
      have p102706 : ie [1, 2, 6, 7, 8, 9, 10, 11, 12, 13] u_9.1 s0.1 := (ie_tr q102683 (by decide) (ie_tr q102671 (by decide) (ie_up (ie_refl _ _) (by decide))))
      have p102707 : (0 : Int32).toInt = 0 ∨ (0 : Int32).toInt = 1 := by (have := li_0; omega)
      have p102708 : (s0.1 6).toInt ≤ (u_9.1 6).toInt ∧ (u_9.1 6).toInt ≤ N := by omega
      exact k _ _ q102682 p102706 p102707 p102708
  · replace c102678 := q_eq c102678
    rw [li_0] at c102678
    have p102709 : ie [1, 2, 6, 7, 8, 9, 10, 11, 12, 13] u_4.1 s0.1 := (ie_tr q102671 (by decide) (ie_up (ie_refl _ _) (by decide)))
    have p102710 : (0 : Int32).toInt = 0 ∨ (0 : Int32).toInt = 1 := by (have := li_0; omega)
    have p102711 : (s0.1 6).toInt ≤ (u_4.1 6).toInt ∧ (u_4.1 6).toInt ≤ N := by omega
    exact k _ _ q102670 p102709 p102710 p102711
theorem wq_X7_goesScroll {post : Int32 → Md → Prop} {s0 : Md} {x1 : Int32} {N R W D : Int} (h102712 : mb (N) (R) (W) (D) s0) (h102713 : 0 < D) (h102714 : 0 ≤ (s0.1 6).toInt ∧ (s0.1 6).toInt + 6 ≤ N) (k : ∀ (r : Int32) (u : Md), mb (N) (R) (W) (D) u → ie [1, 2, 6, 7, 8, 9, 10, 11, 12, 13] u.1 s0.1 → (r).toInt = 0 ∨ (r).toInt = 1 → (s0.1 6).toInt ≤ (u.1 6).toInt ∧ (u.1 6).toInt ≤ N → post r u) : wp_X7_goesScroll post s0 x1 := by
  unfold wp_X7_goesScroll
  have := h102712.1
  have := h102712.2.1
  have := h102712.2.2.1
  have := h102712.2.2.2.1
  have p102715 : (s0.1 5).toInt = N := by omega
  have p102716 : 0 ≤ (s0.1 0).toInt ∧ (s0.1 0).toInt ≤ 10 := by omega
  have p102717 : 0 ≤ N ∧ N ≤ 400 := by omega
  have p102718 : 0 ≤ R ∧ R ≤ 6 ∧ 0 ≤ W ∧ W ≤ 10 ∧ 0 ≤ R * W ∧ R * W ≤ 40 ∧ 0 ≤ D ∧ D ≤ 4 ∧ (D ≤ 0 ∨ 1 ≤ R) ∧ (1 ≤ R ∨ R * W = 0) := by omega
  have B102719 : mb (N) (R) (W) (D) ((va_up s0.1 6 ((s0.1 6) + 6)), s0.2.1, s0.2.2.1, s0.2.2.2) := ⟨p102715, p102716, p102717, p102718, h102712.2.2.2.2.1, h102712.2.2.2.2.2.1, h102712.2.2.2.2.2.2.1, h102712.2.2.2.2.2.2.2⟩
  refine wq_X7_wide B102719 (fun r_1 q102720 => ?_)
  replace q102720 : (r_1).toInt = W := q102720
  have e102721 := tq_addr li_6 (s0.1 6)
  try rw [Int.emod_eq_of_lt (show 0 ≤ (s0.1 6).toInt + 6 + 2147483648 by omega) (show (s0.1 6).toInt + 6 + 2147483648 < 4294967296 by omega)] at e102721
  have p102722 : 0 ≤ ((s0.1 6) + 6).toInt ∧ ((s0.1 6) + 6).toInt ≤ N := by omega
  have p102723 : 0 ≤ (r_1).toInt := by omega
  refine wq_X7_readsQuoted B102719 p102722 p102723 (fun r_3 u_4 q102724 q102725 q102726 q102727 q102728 q102729 => ?_)
  have := q102724.1
  have := q102724.2.1
  replace q102726 : (r_3).toInt = 0 ∨ (r_3).toInt = 1 := q102726
  replace q102727 : ((s0.1 6) + 6).toInt ≤ (u_4.1 6).toInt ∧ (u_4.1 6).toInt ≤ N := q102727
  replace q102728 : (r_3).toInt = 0 ∨ (0 ≤ (u_4.1 10).toInt ∧ 0 ≤ (u_4.1 11).toInt ∧ (u_4.1 10).toInt + (u_4.1 11).toInt ≤ N ∧ ((0 : Int32)).toInt ≤ (u_4.1 11).toInt ∧ (u_4.1 11).toInt ≤ (r_1).toInt) := q102728
  try simp only [li_0] at q102728
  refine ⟨fun c102730 => ?_, fun c102731 => ?_⟩
  · replace c102730 := q_neq c102730
    rw [li_0] at c102730
    refine wq_X7_isDone q102724 (fun r_6 u_7 q102732 q102733 q102734 => ?_)
    have := q102732.1
    have := q102732.2.1
    refine ⟨fun c102735 => ?_, fun c102736 => ?_⟩
    · replace c102735 := q_eq c102735
      rw [li_0] at c102735
      have p102737 : ie [1, 2, 6, 7, 8, 9, 10, 11, 12, 13] u_7.1 s0.1 := (ie_tr q102733 (by decide) (ie_tr q102725 (by decide) (ie_up (ie_refl _ _) (by decide))))
      have p102738 : (1 : Int32).toInt = 0 ∨ (1 : Int32).toInt = 1 := by (have := li_1; omega)
      have : (u_7.1 6).toInt = (u_4.1 6).toInt := ie_i q102733 6 (by decide)
      have p102739 : (s0.1 6).toInt ≤ (u_7.1 6).toInt ∧ (u_7.1 6).toInt ≤ N := by omega
      exact k _ _ q102732 p102737 p102738 p102739
    · replace c102736 := q_neq c102736
      rw [li_0] at c102736
      have p102740 : 0 < D := by omega
      have : (u_7.1 10).toInt = (u_4.1 10).toInt := ie_i q102733 10 (by decide)
      have : (u_7.1 11).toInt = (u_4.1 11).toInt := ie_i q102733 11 (by decide)
      have p102741 : 0 ≤ (u_7.1 10).toInt ∧ 0 ≤ (u_7.1 11).toInt ∧ (u_7.1 10).toInt + (u_7.1 11).toInt ≤ 400 := by omega
      refine wq_X7_scrolls q102732 p102740 p102741 (fun r_9 u_10 q102742 q102743 => ?_)
      have := q102742.1
      have := q102742.2.1
      have p102744 : ie [1, 2, 6, 7, 8, 9, 10, 11, 12, 13] u_10.1 s0.1 := (ie_tr q102743 (by decide) (ie_tr q102733 (by decide) (ie_tr q102725 (by decide) (ie_up (ie_refl _ _) (by decide)))))
      have p102745 : (1 : Int32).toInt = 0 ∨ (1 : Int32).toInt = 1 := by (have := li_1; omega)
      have : (u_10.1 6).toInt = (u_7.1 6).toInt := ie_i q102743 6 (by decide)
      have : (u_7.1 6).toInt = (u_4.1 6).toInt := ie_i q102733 6 (by decide)
      have p102746 : (s0.1 6).toInt ≤ (u_10.1 6).toInt ∧ (u_10.1 6).toInt ≤ N := by omega
      exact k _ _ q102742 p102744 p102745 p102746
  · replace c102731 := q_eq c102731
    rw [li_0] at c102731
    have p102747 : ie [1, 2, 6, 7, 8, 9, 10, 11, 12, 13] u_4.1 s0.1 := (ie_tr q102725 (by decide) (ie_up (ie_refl _ _) (by decide)))
    have p102748 : (0 : Int32).toInt = 0 ∨ (0 : Int32).toInt = 1 := by (have := li_0; omega)
    have p102749 : (s0.1 6).toInt ≤ (u_4.1 6).toInt ∧ (u_4.1 6).toInt ≤ N := by omega
    exact k _ _ q102724 p102747 p102748 p102749
theorem wq_X7_goesHome_L38 {post : Int32 → Md → Prop} {e69 : Md → Int32 → Int32 → Prop} {D N R W : Int} {A : Nat → Int32} (h102750 : 0 < D) (ke69 : ∀ (t0 : Md) (z1 : Int32) (z2 : Int32), mb (N) (R) (W) (D) t0 → ie [] t0.1 A → 0 ≤ (t0.1 8).toInt ∧ (t0.1 8).toInt < R → 0 ≤ (z2).toInt ∧ (z2).toInt ≤ W → e69 t0 z1 z2) : ∀ (n : Nat) (t0 : Md) (z1 : Int32) (z2 : Int32), mb (N) (R) (W) (D) t0 → ie [] t0.1 A → 0 ≤ (t0.1 8).toInt ∧ (t0.1 8).toInt < R → 0 ≤ (z2).toInt ∧ (z2).toInt ≤ W → W - (z2).toInt < (n : Int) → wp_X7_goesHome_L38 post e69 n t0 z1 z2 := by
  intro n
  induction n with
  | zero =>
    intro t0 z1 z2 i102751 i102752 i102753 i102754 i102755
    have := i102751.1
    have := i102751.2.1
    have := i102751.2.2.1
    have := i102751.2.2.2.1
    have : (t0.1 8).toInt = (A 8).toInt := ie_i i102752 8 (by decide)
    exfalso
    omega
  | succ n ih =>
    intro t0 z1 z2 i102751 i102752 i102753 i102754 i102755
    unfold wp_X7_goesHome_L38
    have := i102751.1
    have := i102751.2.1
    have := i102751.2.2.1
    have := i102751.2.2.2.1
    have : (t0.1 8).toInt = (A 8).toInt := ie_i i102752 8 (by decide)
    refine wq_X7_wide i102751 (fun r_9 q102756 => ?_)
    refine ⟨fun c102757 => ?_, fun c102758 => ?_⟩
    · replace c102757 := q_le c102757
      have p102759 : ie [] t0.1 A := (ie_tr i102752 (by decide) (ie_refl _ _))
      have p102760 : 0 ≤ (t0.1 8).toInt ∧ (t0.1 8).toInt < R := by omega
      have p102761 : 0 ≤ (z2).toInt ∧ (z2).toInt ≤ W := by omega
      exact ke69 _ _ _ i102751 p102759 p102760 p102761
    · replace c102758 := q_nle c102758
      refine wq_X7_wide i102751 (fun r_12 q102762 => ?_)
      have := rw_r (a := (t0.1 8)) (b := r_12) (R := R) (W := W) (by omega) (by omega) (by omega)
      have e102763 := tq_add (r_12 * (t0.1 8)) z2
      try rw [Int.emod_eq_of_lt (show 0 ≤ (r_12 * (t0.1 8)).toInt + (z2).toInt + 2147483648 by omega) (show (r_12 * (t0.1 8)).toInt + (z2).toInt + 2147483648 < 4294967296 by omega)] at e102763
      have p102764 : 0 ≤ ((r_12 * (t0.1 8)) + z2).toInt ∧ ((r_12 * (t0.1 8)) + z2).toInt < 40 := by omega
      have p102765 : 0 < D := by omega
      try have := rw_k i102751.2.2.2.2.1 (show 0 ≤ (((r_12 * (t0.1 8)) + z2)).toInt ∧ (((r_12 * (t0.1 8)) + z2)).toInt < 40 by omega)
      have p102766 : 0 ≤ ((0 : Int32)).toInt ∧ ((0 : Int32)).toInt ≤ 39 ∧ ((0 : Int32)).toInt < fl_c ((t0.2.2.1 0)) ((r_12 * (t0.1 8)) + z2) := by (have := li_0; omega)
      refine wq_X7_wantsFlap i102751 p102764 p102765 p102766 (fun u_15 q102767 q102768 => ?_)
      have := q102767.1
      have := q102767.2.1
      have p102769 : ie [] u_15.1 A := (ie_tr q102768 (by decide) (ie_tr i102752 (by decide) (ie_refl _ _)))
      have : (u_15.1 8).toInt = (t0.1 8).toInt := ie_i q102768 8 (by decide)
      have p102770 : 0 ≤ (u_15.1 8).toInt ∧ (u_15.1 8).toInt < R := by omega
      have e102771 := tq_addr li_1 z2
      try rw [Int.emod_eq_of_lt (show 0 ≤ (z2).toInt + 1 + 2147483648 by omega) (show (z2).toInt + 1 + 2147483648 < 4294967296 by omega)] at e102771
      have p102772 : 0 ≤ (z2 + 1).toInt ∧ (z2 + 1).toInt ≤ W := by omega
      have p102773 : W - (z2 + 1).toInt < ((n : Nat) : Int) := by (omega)
      exact ih _ _ _ q102767 p102769 p102770 p102772 p102773
theorem wq_X7_goesHome {post : Int32 → Md → Prop} {s0 : Md} {x1 : Int32} {N R W D : Int} (h102774 : mb (N) (R) (W) (D) s0) (h102775 : 0 < D) (h102776 : 0 ≤ (s0.1 6).toInt ∧ (s0.1 6).toInt + 4 ≤ N) (k : ∀ (r : Int32) (u : Md), mb (N) (R) (W) (D) u → ie [1, 2, 6, 7, 8, 9, 10, 11, 12, 13] u.1 s0.1 → (r).toInt = 0 ∨ (r).toInt = 1 → (s0.1 6).toInt ≤ (u.1 6).toInt ∧ (u.1 6).toInt ≤ N → post r u) : wp_X7_goesHome post s0 x1 := by
  unfold wp_X7_goesHome
  have := h102774.1
  have := h102774.2.1
  have := h102774.2.2.1
  have := h102774.2.2.2.1
  have p102777 : (s0.1 5).toInt = N := by omega
  have p102778 : 0 ≤ (s0.1 0).toInt ∧ (s0.1 0).toInt ≤ 10 := by omega
  have p102779 : 0 ≤ N ∧ N ≤ 400 := by omega
  have p102780 : 0 ≤ R ∧ R ≤ 6 ∧ 0 ≤ W ∧ W ≤ 10 ∧ 0 ≤ R * W ∧ R * W ≤ 40 ∧ 0 ≤ D ∧ D ≤ 4 ∧ (D ≤ 0 ∨ 1 ≤ R) ∧ (1 ≤ R ∨ R * W = 0) := by omega
  have B102781 : mb (N) (R) (W) (D) ((va_up s0.1 6 ((s0.1 6) + 4)), s0.2.1, s0.2.2.1, s0.2.2.2) := ⟨p102777, p102778, p102779, p102780, h102774.2.2.2.2.1, h102774.2.2.2.2.2.1, h102774.2.2.2.2.2.2.1, h102774.2.2.2.2.2.2.2⟩
  refine wq_X7_rows B102781 (fun r_1 q102782 => ?_)
  replace q102782 : (r_1).toInt = R := q102782
  have e102783 := tq_addr li_4 (s0.1 6)
  try rw [Int.emod_eq_of_lt (show 0 ≤ (s0.1 6).toInt + 4 + 2147483648 by omega) (show (s0.1 6).toInt + 4 + 2147483648 < 4294967296 by omega)] at e102783
  have p102784 : 0 ≤ ((s0.1 6) + 4).toInt ∧ ((s0.1 6) + 4).toInt ≤ N := by omega
  refine wq_X7_readsNumber B102781 p102784 (fun r_3 u_4 q102785 q102786 q102787 q102788 q102789 q102790 => ?_)
  have := q102785.1
  have := q102785.2.1
  replace q102787 : (r_3).toInt = 0 ∨ (r_3).toInt = 1 := q102787
  replace q102788 : ((s0.1 6) + 4).toInt ≤ (u_4.1 6).toInt ∧ (u_4.1 6).toInt ≤ N := q102788
  replace q102789 : (r_3).toInt = 0 ∨ (((0 : Int32)).toInt ≤ (u_4.1 8).toInt ∧ (u_4.1 8).toInt ≤ (r_1 - 1).toInt) := q102789
  try simp only [li_0] at q102789
  have e102791 := tq_subr li_1 r_1
  try rw [Int.emod_eq_of_lt (show 0 ≤ (r_1).toInt - 1 + 2147483648 by omega) (show (r_1).toInt - 1 + 2147483648 < 4294967296 by omega)] at e102791
  refine ⟨fun c102792 => ?_, fun c102793 => ?_⟩
  · replace c102792 := q_neq c102792
    rw [li_0] at c102792
    refine wq_X7_isDone q102785 (fun r_6 u_7 q102794 q102795 q102796 => ?_)
    have := q102794.1
    have := q102794.2.1
    refine ⟨fun c102797 => ?_, fun c102798 => ?_⟩
    · replace c102797 := q_neq c102797
      rw [li_0] at c102797
      have p102799 : 0 < D := by omega
      have p102800 : ie [] u_7.1 u_7.1 := (ie_refl _ _)
      have : (u_7.1 8).toInt = (u_4.1 8).toInt := ie_i q102795 8 (by decide)
      have p102801 : 0 ≤ (u_7.1 8).toInt ∧ (u_7.1 8).toInt < R := by omega
      have p102802 : 0 ≤ (0 : Int32).toInt ∧ (0 : Int32).toInt ≤ W := by (have := li_0; omega)
      obtain ⟨f102803, g102804⟩ := fu_e 50
      have p102805 : W - (0 : Int32).toInt < (f102803 : Int) := by (have := li_0; omega)
      refine ⟨f102803, wq_X7_goesHome_L38 p102799 (fun t0 z1 z2 q102806 q102807 q102808 q102809 => ?_) f102803 _ _ _ q102794 p102800 p102801 p102802 p102805⟩
      have := q102806.1
      have := q102806.2.1
      have : (t0.1 8).toInt = (u_7.1 8).toInt := ie_i q102807 8 (by decide)
      have p102810 : ie [1, 2, 6, 7, 8, 9, 10, 11, 12, 13] t0.1 s0.1 := (ie_tr q102807 (by decide) (ie_tr q102795 (by decide) (ie_tr q102786 (by decide) (ie_up (ie_refl _ _) (by decide)))))
      have p102811 : (1 : Int32).toInt = 0 ∨ (1 : Int32).toInt = 1 := by (have := li_1; omega)
      have : (t0.1 6).toInt = (u_7.1 6).toInt := ie_i q102807 6 (by decide)
      have : (u_7.1 6).toInt = (u_4.1 6).toInt := ie_i q102795 6 (by decide)
      have p102812 : (s0.1 6).toInt ≤ (t0.1 6).toInt ∧ (t0.1 6).toInt ≤ N := by omega
      exact k _ _ q102806 p102810 p102811 p102812
    · replace c102798 := q_eq c102798
      rw [li_0] at c102798
      have p102813 : ie [1, 2, 6, 7, 8, 9, 10, 11, 12, 13] u_7.1 s0.1 := (ie_tr q102795 (by decide) (ie_tr q102786 (by decide) (ie_up (ie_refl _ _) (by decide))))
      have p102814 : (1 : Int32).toInt = 0 ∨ (1 : Int32).toInt = 1 := by (have := li_1; omega)
      have : (u_7.1 6).toInt = (u_4.1 6).toInt := ie_i q102795 6 (by decide)
      have p102815 : (s0.1 6).toInt ≤ (u_7.1 6).toInt ∧ (u_7.1 6).toInt ≤ N := by omega
      exact k _ _ q102794 p102813 p102814 p102815
  · replace c102793 := q_eq c102793
    rw [li_0] at c102793
    have p102816 : ie [1, 2, 6, 7, 8, 9, 10, 11, 12, 13] u_4.1 s0.1 := (ie_tr q102786 (by decide) (ie_up (ie_refl _ _) (by decide)))
    have p102817 : (0 : Int32).toInt = 0 ∨ (0 : Int32).toInt = 1 := by (have := li_0; omega)
    have p102818 : (s0.1 6).toInt ≤ (u_4.1 6).toInt ∧ (u_4.1 6).toInt ≤ N := by omega
    exact k _ _ q102785 p102816 p102817 p102818
theorem wq_X7_goesWait_L34 {post : Int32 → Md → Prop} {e53 : Md → Int32 → Int32 → Prop} {D N R W : Int} {A : Nat → Int32} (h102819 : 0 < D) (ke53 : ∀ (t0 : Md) (z1 : Int32) (z2 : Int32), mb (N) (R) (W) (D) t0 → ie [1, 2] t0.1 A → 0 ≤ (z2).toInt ∧ (z2).toInt ≤ (t0.1 8).toInt ∧ (t0.1 8).toInt ≤ 99 → e53 t0 z1 z2) : ∀ (n : Nat) (t0 : Md) (z1 : Int32) (z2 : Int32), mb (N) (R) (W) (D) t0 → ie [1, 2] t0.1 A → 0 ≤ (z2).toInt ∧ (z2).toInt ≤ (t0.1 8).toInt ∧ (t0.1 8).toInt ≤ 99 → (t0.1 8).toInt - (z2).toInt < (n : Int) → wp_X7_goesWait_L34 post e53 n t0 z1 z2 := by
  intro n
  induction n with
  | zero =>
    intro t0 z1 z2 i102820 i102821 i102822 i102823
    have := i102820.1
    have := i102820.2.1
    have := i102820.2.2.1
    have := i102820.2.2.2.1
    have : (t0.1 8).toInt = (A 8).toInt := ie_i i102821 8 (by decide)
    exfalso
    omega
  | succ n ih =>
    intro t0 z1 z2 i102820 i102821 i102822 i102823
    unfold wp_X7_goesWait_L34
    have := i102820.1
    have := i102820.2.1
    have := i102820.2.2.1
    have := i102820.2.2.2.1
    have : (t0.1 8).toInt = (A 8).toInt := ie_i i102821 8 (by decide)
    refine ⟨fun c102824 => ?_, fun c102825 => ?_⟩
    · replace c102824 := q_le c102824
      have p102826 : ie [1, 2] t0.1 A := (ie_tr i102821 (by decide) (ie_refl _ _))
      have p102827 : 0 ≤ (z2).toInt ∧ (z2).toInt ≤ (t0.1 8).toInt ∧ (t0.1 8).toInt ≤ 99 := by omega
      exact ke53 _ _ _ i102820 p102826 p102827
    · replace c102825 := q_nle c102825
      have p102828 : 0 < D := by omega
      refine wq_X7_ticks i102820 p102828 (fun r_8 u_9 q102829 q102830 q102831 q102832 => ?_)
      have := q102829.1
      have := q102829.2.1
      have p102833 : ie [1, 2] u_9.1 A := (ie_tr q102830 (by decide) (ie_tr i102821 (by decide) (ie_refl _ _)))
      have e102834 := tq_addr li_1 z2
      try rw [Int.emod_eq_of_lt (show 0 ≤ (z2).toInt + 1 + 2147483648 by omega) (show (z2).toInt + 1 + 2147483648 < 4294967296 by omega)] at e102834
      have : (u_9.1 8).toInt = (t0.1 8).toInt := ie_i q102830 8 (by decide)
      have p102835 : 0 ≤ (z2 + 1).toInt ∧ (z2 + 1).toInt ≤ (u_9.1 8).toInt ∧ (u_9.1 8).toInt ≤ 99 := by omega
      have p102836 : (u_9.1 8).toInt - (z2 + 1).toInt < ((n : Nat) : Int) := by (omega)
      exact ih _ _ _ q102829 p102833 p102835 p102836

theorem wq_X7_goesWait {post : Int32 → Md → Prop} {s0 : Md} {x1 : Int32} {N R W D : Int} (h102837 : mb (N) (R) (W) (D) s0) (h102838 : 0 < D) (h102839 : 0 ≤ (s0.1 6).toInt ∧ (s0.1 6).toInt + 4 ≤ N) (k : ∀ (r : Int32) (u : Md), mb (N) (R) (W) (D) u → ie [1, 2, 6, 7, 8, 9, 10, 11, 12, 13] u.1 s0.1 → (r).toInt = 0 ∨ (r).toInt = 1 → (s0.1 6).toInt ≤ (u.1 6).toInt ∧ (u.1 6).toInt ≤ N → post r u) : wp_X7_goesWait post s0 x1 := by
  unfold wp_X7_goesWait
  have := h102837.1
  have := h102837.2.1
  have := h102837.2.2.1
  have := h102837.2.2.2.1
  have p102840 : (s0.1 5).toInt = N := by omega
  have p102841 : 0 ≤ (s0.1 0).toInt ∧ (s0.1 0).toInt ≤ 10 := by omega
  have p102842 : 0 ≤ N ∧ N ≤ 400 := by omega
  have p102843 : 0 ≤ R ∧ R ≤ 6 ∧ 0 ≤ W ∧ W ≤ 10 ∧ 0 ≤ R * W ∧ R * W ≤ 40 ∧ 0 ≤ D ∧ D ≤ 4 ∧ (D ≤ 0 ∨ 1 ≤ R) ∧ (1 ≤ R ∨ R * W = 0) := by omega
  have B102844 : mb (N) (R) (W) (D) ((va_up s0.1 6 ((s0.1 6) + 4)), s0.2.1, s0.2.2.1, s0.2.2.2) := ⟨p102840, p102841, p102842, p102843, h102837.2.2.2.2.1, h102837.2.2.2.2.2.1, h102837.2.2.2.2.2.2.1, h102837.2.2.2.2.2.2.2⟩
  have e102845 := tq_addr li_4 (s0.1 6)
  try rw [Int.emod_eq_of_lt (show 0 ≤ (s0.1 6).toInt + 4 + 2147483648 by omega) (show (s0.1 6).toInt + 4 + 2147483648 < 4294967296 by omega)] at e102845
  have p102846 : 0 ≤ ((s0.1 6) + 4).toInt ∧ ((s0.1 6) + 4).toInt ≤ N := by omega
  refine wq_X7_readsNumber B102844 p102846 (fun r_1 u_2 q102847 q102848 q102849 q102850 q102851 q102852 => ?_)
  have := q102847.1
  have := q102847.2.1
  replace q102849 : (r_1).toInt = 0 ∨ (r_1).toInt = 1 := q102849
  replace q102850 : ((s0.1 6) + 4).toInt ≤ (u_2.1 6).toInt ∧ (u_2.1 6).toInt ≤ N := q102850
  replace q102851 : (r_1).toInt = 0 ∨ (((1 : Int32)).toInt ≤ (u_2.1 8).toInt ∧ (u_2.1 8).toInt ≤ ((99 : Int32)).toInt) := q102851
  try simp only [li_1, li_99] at q102851
  refine ⟨fun c102853 => ?_, fun c102854 => ?_⟩
  · replace c102853 := q_neq c102853
    rw [li_0] at c102853
    refine wq_X7_isDone q102847 (fun r_4 u_5 q102855 q102856 q102857 => ?_)
    have := q102855.1
    have := q102855.2.1
    refine ⟨fun c102858 => ?_, fun c102859 => ?_⟩
    · replace c102858 := q_neq c102858
      rw [li_0] at c102858
      have p102860 : 0 < D := by omega
      have p102861 : ie [1, 2] u_5.1 u_5.1 := (ie_refl _ _)
      have : (u_5.1 8).toInt = (u_2.1 8).toInt := ie_i q102856 8 (by decide)
      have p102862 : 0 ≤ (0 : Int32).toInt ∧ (0 : Int32).toInt ≤ (u_5.1 8).toInt ∧ (u_5.1 8).toInt ≤ 99 := by (have := li_0; omega)
      obtain ⟨f102863, g102864⟩ := fu_e 200
      have p102865 : (u_5.1 8).toInt - (0 : Int32).toInt < (f102863 : Int) := by (have := li_0; omega)
      refine ⟨f102863, wq_X7_goesWait_L34 p102860 (fun t0 z1 z2 q102866 q102867 q102868 => ?_) f102863 _ _ _ q102855 p102861 p102862 p102865⟩
      have := q102866.1
      have := q102866.2.1
      have : (t0.1 8).toInt = (u_5.1 8).toInt := ie_i q102867 8 (by decide)
      have p102869 : ie [1, 2, 6, 7, 8, 9, 10, 11, 12, 13] t0.1 s0.1 := (ie_tr q102867 (by decide) (ie_tr q102856 (by decide) (ie_tr q102848 (by decide) (ie_up (ie_refl _ _) (by decide)))))
      have p102870 : (1 : Int32).toInt = 0 ∨ (1 : Int32).toInt = 1 := by (have := li_1; omega)
      have : (t0.1 6).toInt = (u_5.1 6).toInt := ie_i q102867 6 (by decide)
      have : (u_5.1 6).toInt = (u_2.1 6).toInt := ie_i q102856 6 (by decide)
      have p102871 : (s0.1 6).toInt ≤ (t0.1 6).toInt ∧ (t0.1 6).toInt ≤ N := by omega
      exact k _ _ q102866 p102869 p102870 p102871
    · replace c102859 := q_eq c102859
      rw [li_0] at c102859
      have p102872 : ie [1, 2, 6, 7, 8, 9, 10, 11, 12, 13] u_5.1 s0.1 := (ie_tr q102856 (by decide) (ie_tr q102848 (by decide) (ie_up (ie_refl _ _) (by decide))))
      have p102873 : (1 : Int32).toInt = 0 ∨ (1 : Int32).toInt = 1 := by (have := li_1; omega)
      have : (u_5.1 6).toInt = (u_2.1 6).toInt := ie_i q102856 6 (by decide)
      have p102874 : (s0.1 6).toInt ≤ (u_5.1 6).toInt ∧ (u_5.1 6).toInt ≤ N := by omega
      exact k _ _ q102855 p102872 p102873 p102874
  · replace c102854 := q_eq c102854
    rw [li_0] at c102854
    have p102875 : ie [1, 2, 6, 7, 8, 9, 10, 11, 12, 13] u_2.1 s0.1 := (ie_tr q102848 (by decide) (ie_up (ie_refl _ _) (by decide)))
    have p102876 : (0 : Int32).toInt = 0 ∨ (0 : Int32).toInt = 1 := by (have := li_0; omega)
    have p102877 : (s0.1 6).toInt ≤ (u_2.1 6).toInt ∧ (u_2.1 6).toInt ≤ N := by omega
    exact k _ _ q102847 p102875 p102876 p102877
theorem wq_X7_goesSettle {post : Int32 → Md → Prop} {s0 : Md} {x1 : Int32} {N R W D : Int} (h102878 : mb (N) (R) (W) (D) s0) (h102879 : 0 < D) (h102880 : 0 ≤ (s0.1 6).toInt ∧ (s0.1 6).toInt + 6 ≤ N) (k : ∀ (r : Int32) (u : Md), mb (N) (R) (W) (D) u → ie [1, 2, 6, 7, 8, 9, 10, 11, 12, 13] u.1 s0.1 → (r).toInt = 0 ∨ (r).toInt = 1 → (s0.1 6).toInt ≤ (u.1 6).toInt ∧ (u.1 6).toInt ≤ N → post r u) : wp_X7_goesSettle post s0 x1 := by
  unfold wp_X7_goesSettle
  have := h102878.1
  have := h102878.2.1
  have := h102878.2.2.1
  have := h102878.2.2.2.1
  have p102881 : (s0.1 5).toInt = N := by omega
  have p102882 : 0 ≤ (s0.1 0).toInt ∧ (s0.1 0).toInt ≤ 10 := by omega
  have p102883 : 0 ≤ N ∧ N ≤ 400 := by omega
  have p102884 : 0 ≤ R ∧ R ≤ 6 ∧ 0 ≤ W ∧ W ≤ 10 ∧ 0 ≤ R * W ∧ R * W ≤ 40 ∧ 0 ≤ D ∧ D ≤ 4 ∧ (D ≤ 0 ∨ 1 ≤ R) ∧ (1 ≤ R ∨ R * W = 0) := by omega
  have B102885 : mb (N) (R) (W) (D) ((va_up s0.1 6 ((s0.1 6) + 6)), s0.2.1, s0.2.2.1, s0.2.2.2) := ⟨p102881, p102882, p102883, p102884, h102878.2.2.2.2.1, h102878.2.2.2.2.2.1, h102878.2.2.2.2.2.2.1, h102878.2.2.2.2.2.2.2⟩
  refine wq_X7_isDone B102885 (fun r_1 u_2 q102886 q102887 q102888 => ?_)
  have := q102886.1
  have := q102886.2.1
  replace q102888 : (r_1).toInt = 0 ∨ (r_1).toInt = 1 := q102888
  refine ⟨fun c102889 => ?_, fun c102890 => ?_⟩
  · replace c102889 := q_eq c102889
    rw [li_0] at c102889
    have p102891 : ie [1, 2, 6, 7, 8, 9, 10, 11, 12, 13] u_2.1 s0.1 := (ie_tr q102887 (by decide) (ie_up (ie_refl _ _) (by decide)))
    have p102892 : (1 : Int32).toInt = 0 ∨ (1 : Int32).toInt = 1 := by (have := li_1; omega)
    have : (u_2.1 6).toInt = ((s0.1 6) + 6).toInt := ie_i q102887 6 (by decide)
    have e102893 := tq_addr li_6 (s0.1 6)
    try rw [Int.emod_eq_of_lt (show 0 ≤ (s0.1 6).toInt + 6 + 2147483648 by omega) (show (s0.1 6).toInt + 6 + 2147483648 < 4294967296 by omega)] at e102893
    have p102894 : (s0.1 6).toInt ≤ (u_2.1 6).toInt ∧ (u_2.1 6).toInt ≤ N := by omega
    exact k _ _ q102886 p102891 p102892 p102894
  · replace c102890 := q_neq c102890
    rw [li_0] at c102890
    have p102895 : 0 < D := by omega
    refine wq_X7_settles q102886 p102895 (fun r_4 u_5 q102896 q102897 => ?_)
    have := q102896.1
    have := q102896.2.1
    have p102898 : ie [1, 2, 6, 7, 8, 9, 10, 11, 12, 13] u_5.1 s0.1 := (ie_tr q102897 (by decide) (ie_tr q102887 (by decide) (ie_up (ie_refl _ _) (by decide))))
    have p102899 : (1 : Int32).toInt = 0 ∨ (1 : Int32).toInt = 1 := by (have := li_1; omega)
    have : (u_5.1 6).toInt = (u_2.1 6).toInt := ie_i q102897 6 (by decide)
    have : (u_2.1 6).toInt = ((s0.1 6) + 6).toInt := ie_i q102887 6 (by decide)
    have e102900 := tq_addr li_6 (s0.1 6)
    try rw [Int.emod_eq_of_lt (show 0 ≤ (s0.1 6).toInt + 6 + 2147483648 by omega) (show (s0.1 6).toInt + 6 + 2147483648 < 4294967296 by omega)] at e102900
    have p102901 : (s0.1 6).toInt ≤ (u_5.1 6).toInt ∧ (u_5.1 6).toInt ≤ N := by omega
    exact k _ _ q102896 p102898 p102899 p102901
theorem wq_X7_goesLose {post : Int32 → Md → Prop} {s0 : Md} {x1 : Int32} {N R W D : Int} (h102902 : mb (N) (R) (W) (D) s0) (h102903 : 0 < D) (h102904 : 0 ≤ (s0.1 6).toInt ∧ (s0.1 6).toInt + 4 ≤ N) (k : ∀ (r : Int32) (u : Md), mb (N) (R) (W) (D) u → ie [1, 2, 6, 7, 8, 9, 10, 11, 12, 13] u.1 s0.1 → (r).toInt = 0 ∨ (r).toInt = 1 → (s0.1 6).toInt ≤ (u.1 6).toInt ∧ (u.1 6).toInt ≤ N → post r u) : wp_X7_goesLose post s0 x1 := by
  unfold wp_X7_goesLose
  have := h102902.1
  have := h102902.2.1
  have := h102902.2.2.1
  have := h102902.2.2.2.1
  have p102905 : 0 ≤ (s0.1 6).toInt ∧ (s0.1 6).toInt + 4 ≤ N := by omega
  refine wq_X7_readsLose h102902 p102905 (fun r_1 u_2 q102906 q102907 q102908 q102909 q102910 => ?_)
  have := q102906.1
  have := q102906.2.1
  refine ⟨fun c102911 => ?_, fun c102912 => ?_⟩
  · replace c102911 := q_neq c102911
    rw [li_0] at c102911
    refine wq_X7_isDone q102906 (fun r_4 u_5 q102913 q102914 q102915 => ?_)
    have := q102913.1
    have := q102913.2.1
    refine ⟨fun c102916 => ?_, fun c102917 => ?_⟩
    · replace c102916 := q_eq c102916
      rw [li_0] at c102916
      have p102918 : ie [1, 2, 6, 7, 8, 9, 10, 11, 12, 13] u_5.1 s0.1 := (ie_tr q102914 (by decide) (ie_tr q102907 (by decide) (ie_refl _ _)))
      have p102919 : (1 : Int32).toInt = 0 ∨ (1 : Int32).toInt = 1 := by (have := li_1; omega)
      have : (u_5.1 6).toInt = (u_2.1 6).toInt := ie_i q102914 6 (by decide)
      have p102920 : (s0.1 6).toInt ≤ (u_5.1 6).toInt ∧ (u_5.1 6).toInt ≤ N := by omega
      exact k _ _ q102913 p102918 p102919 p102920
    · replace c102917 := q_neq c102917
      rw [li_0] at c102917
      have : (u_5.1 12).toInt = (u_2.1 12).toInt := ie_i q102914 12 (by decide)
      have p102921 : 0 ≤ (u_5.1 12).toInt ∧ (u_5.1 12).toInt < 40 := by omega
      have : (u_5.1 8).toInt = (u_2.1 8).toInt := ie_i q102914 8 (by decide)
      have := tq_64 (u_5.1 8)
      have p102922 : 0 ≤ (Int32.toInt64 (u_5.1 8)).toInt ∧ (Int32.toInt64 (u_5.1 8)).toInt ≤ 9 := by omega
      refine wq_X7_sets_4 q102913 p102921 p102922 (fun u_8 q102923 q102924 q102925 => ?_)
      have := q102923.1
      have := q102923.2.1
      have p102926 : ie [1, 2, 6, 7, 8, 9, 10, 11, 12, 13] u_8.1 s0.1 := (ie_tr q102924 (by decide) (ie_tr q102914 (by decide) (ie_tr q102907 (by decide) (ie_refl _ _))))
      have p102927 : (1 : Int32).toInt = 0 ∨ (1 : Int32).toInt = 1 := by (have := li_1; omega)
      have : (u_8.1 6).toInt = (u_5.1 6).toInt := ie_i q102924 6 (by decide)
      have : (u_5.1 6).toInt = (u_2.1 6).toInt := ie_i q102914 6 (by decide)
      have p102928 : (s0.1 6).toInt ≤ (u_8.1 6).toInt ∧ (u_8.1 6).toInt ≤ N := by omega
      exact k _ _ q102923 p102926 p102927 p102928
  · replace c102912 := q_eq c102912
    rw [li_0] at c102912
    have p102929 : ie [1, 2, 6, 7, 8, 9, 10, 11, 12, 13] u_2.1 s0.1 := (ie_tr q102907 (by decide) (ie_refl _ _))
    have p102930 : (0 : Int32).toInt = 0 ∨ (0 : Int32).toInt = 1 := by (have := li_0; omega)
    have p102931 : (s0.1 6).toInt ≤ (u_2.1 6).toInt ∧ (u_2.1 6).toInt ≤ N := by omega
    exact k _ _ q102906 p102929 p102930 p102931

theorem rw_dw {R W D : Int} {f : Nat → Int64} {d : Nat} {v : Int64} (hf : rw_ok R W D f) (hd : D ≤ (d : Int)) (h4 : d < 4) : rw_ok R W D (vp_updL f (8 + 42 * d + 1) v) := by
  obtain ⟨a0, a1, a2, a3, a4, a5, a6, a7⟩ := hf
  have hc : ∀ c j, c_f (vp_updL f (8 + 42 * d + 1) v) c j = c_f f c j := fun c j => c_ne (by omega)
  refine ⟨by rw [ul_ne (by omega)]; exact a0, by rw [ul_ne (by omega)]; exact a1, by rw [ul_ne (by omega)]; exact a2, by rw [ul_ne (by omega)]; exact a3, by rw [ul_ne (by omega)]; exact a4, a5, fun d2 hD => by rw [d_ne (by omega)]; exact a6 d2 hD, fun c h2 => ?_⟩
  obtain ⟨q1, q2, q3⟩ := a7 c h2
  unfold rw_c
  rw [hc c 0, hc c 1, hc c 2, hc c 3, hc c 4]
  refine ⟨q1, q2, fun g => ?_⟩
  have := q3 g
  rw [d_ne (by omega)]
  exact this
theorem rw_add {R W D : Int} {f : Nat → Int64} {v : Int64} (hf : rw_ok R W D f) (h2 : 2 ≤ d_f f D.toNat ∧ d_f f D.toNat ≤ 40) (hD : D < 4) (hl : 1 ≤ (f 2).toInt) (hR : 1 ≤ R) (hv : v.toInt = D + 1) : rw_ok R W (D + 1) (vp_updL f 3 v) := by
  obtain ⟨a0, a1, a2, a3, a4, a5, a6, a7⟩ := hf
  have hc : ∀ c j, c_f (vp_updL f 3 v) c j = c_f f c j := fun c j => c_ne (by omega)
  have hd : ∀ d, d_f (vp_updL f 3 v) d = d_f f d := fun d => d_ne (by omega)
  refine ⟨by rw [ul_ne (by omega)]; exact a0, by rw [ul_ne (by omega)]; exact a1, by rw [ul_at]; exact hv, by rw [ul_ne (by omega)]; exact Or.inr hl, by rw [ul_ne (by omega)]; exact a4, by omega, fun d2 h3 => ?_, fun c h3 => ?_⟩
  · rw [hd]
    by_cases e : (d2 : Int) < D
    · exact a6 d2 e
    · have e2 : d2 = D.toNat := by omega
      rw [e2]
      exact h2
  · obtain ⟨q1, q2, q3⟩ := a7 c h3
    unfold rw_c
    rw [hc c 0, hc c 1, hc c 2, hc c 3, hc c 4, hd]
    refine ⟨q1, fun g => by omega, fun g => ?_⟩
    by_cases e : D ≤ 0
    · have z := q2 e
      have e2 : D.toNat = (c_f f c 0).toNat := by omega
      rw [e2] at h2
      omega
    · have z := q3 (by omega)
      omega
theorem mb_lim {N R W D : Int} {s : Md} (h : mb N R W D s) (hD : 0 < D) : 1 ≤ (s.2.2.1 0 2).toInt := by
  have := h.2.2.2.2.1.2.2.2.1
  omega
theorem mb_nowD {N R W D D2 : Int} {s t : Md} (h : mb N R W D s) (h5 : t.1 5 = s.1 5) (h0 : t.1 0 = s.1 0) (h2 : ∀ k, ¬ k = 0 → t.2.2.1 k = s.2.2.1 k) (h3 : t.2.2.2 0 = s.2.2.2 0) {R2 W2 : Int} (hr : rw_ok R2 W2 D2 (t.2.2.1 0)) : mb N R2 W2 D2 t := by
  obtain ⟨a0, a1, a2, a3, a4, a5, a6, a7⟩ := h
  refine ⟨by rw [h5]; exact a0, by rw [h0]; exact a1, a2, hr.2.2.2.2.2.1, hr, fun k hk => ?_, fun k hk => ?_, by rw [h2 3 (by decide)]; exact a7⟩
  · rw [h2 1 (by decide)]
    rw [h0] at hk
    exact a5 k hk
  · rw [h2 2 (by decide), h3]
    exact a6 k hk
theorem wq_X7_readsDrum_L91 {post : Int32 → Md → Prop} {e127 : Md → Int32 → Int32 → Int32 → Prop} {s : Md} {z1 z2 : Int32} {N R W D : Int} (hd : 0 ≤ D ∧ D < 4) (hz : z2.toInt = 8 + 42 * D) (hq : 0 ≤ (s.1 10).toInt ∧ 0 ≤ (s.1 11).toInt ∧ (s.1 11).toInt ≤ 40 ∧ (s.1 10).toInt + (s.1 11).toInt ≤ 400) (ke : ∀ (t : Md) (z3 : Int32), mb N R W D t → t.1 = s.1 → d_f (t.2.2.1 0) D.toNat = d_f (s.2.2.1 0) D.toNat → t.2.2.1 0 2 = s.2.2.1 0 2 → t.2.2.1 0 3 = s.2.2.1 0 3 → e127 t z1 z2 z3) : ∀ (n : Nat) (t : Md) (z3 : Int32), mb N R W D t → t.1 = s.1 → d_f (t.2.2.1 0) D.toNat = d_f (s.2.2.1 0) D.toNat → t.2.2.1 0 2 = s.2.2.1 0 2 → t.2.2.1 0 3 = s.2.2.1 0 3 → 0 ≤ z3.toInt ∧ z3.toInt ≤ 40 → 40 - z3.toInt < (n : Int) → wp_X7_readsDrum_L91 post e127 n t z1 z2 z3 := by
  have e1 : (1 : Int32).toInt = 1 := rfl
  have e2 : (2 : Int32).toInt = 2 := rfl
  intro n
  induction n with
  | zero =>
    intro t z3 _ _ _ _ _ _ _
    exfalso
    omega
  | succ n ih =>
    intro t z3 h b1 b2 b3 b4 i2 i3
    unfold wp_X7_readsDrum_L91
    refine ⟨fun c => ke t z3 h b1 b2 b3 b4, fun c => ?_⟩
    have c2 := q_nle c
    have t10 : (t.1 10).toInt = (s.1 10).toInt := by rw [b1]
    have t11 : (t.1 11).toInt = (s.1 11).toInt := by rw [b1]
    have s1 := nw (tq_addr e1 z3) (by omega)
    have m1 := nw (tq_add (t.1 10) z3) (by omega)
    have m2 := nw (tq_addr e2 z2) (by omega)
    have m3 := nw (tq_add (z2 + 2) z3) (by omega)
    have ix : Int32.toNatClampNeg ((z2 + 2) + z3) = ((z2 + 2) + z3).toInt.toNat := tn_i _
    have irr : ¬ rw_rel (Int32.toNatClampNeg ((z2 + 2) + z3)) := by
      rw [ix]
      unfold rw_rel
      omega
    refine ⟨vi (by omega) (by omega), vi (by omega) (by omega), ih _ _ (mb_6 h irr) b1 ?_ ?_ ?_ (by omega) (by omega)⟩
    · show d_f (vp_updL (t.2.2.1 0) (Int32.toNatClampNeg ((z2 + 2) + z3)) _) D.toNat = _
      rw [d_ne (by rw [ix]; omega)]
      exact b2
    · show vp_updL (t.2.2.1 0) (Int32.toNatClampNeg ((z2 + 2) + z3)) _ 2 = _
      rw [ul_ne (by rw [ix]; omega)]
      exact b3
    · show vp_updL (t.2.2.1 0) (Int32.toNatClampNeg ((z2 + 2) + z3)) _ 3 = _
      rw [ul_ne (by rw [ix]; omega)]
      exact b4
theorem wq_X7_readsDrum {post : Int32 → Md → Prop} {s0 : Md} {N R W D : Int} (h : mb N R W D s0) (hR : 1 ≤ R) (hl : 1 ≤ (s0.2.2.1 0 2).toInt) (h6 : 0 ≤ (s0.1 6).toInt ∧ (s0.1 6).toInt + 4 ≤ N) (k : ∀ (r : Int32) (u : Md) (D4 : Int), mb N R W D4 u → (r.toInt = 0 ∨ r.toInt = 1) → (s0.1 6).toInt ≤ (u.1 6).toInt ∧ (u.1 6).toInt ≤ N → (r.toInt = 0 ∨ 0 < D4) → post r u) : wp_X7_readsDrum post s0 := by
  unfold wp_X7_readsDrum
  have e0 : (0 : Int32).toInt = 0 := rfl
  have e1 : (1 : Int32).toInt = 1 := rfl
  have e4 : (4 : Int32).toInt = 4 := rfl
  have e2 : (2 : Int32).toInt = 2 := rfl
  have e40 : (40 : Int32).toInt = 40 := rfl
  have pd := h.2.2.2.1
  have pn := h.2.2.1
  refine wq_X7_drums h (fun r1 a1 => ⟨fun c => ?_, fun c => ?_⟩)
  · have c2 := q_neq c
    have s6 := nw (tq_addr e4 (s0.1 6)) (by omega)
    have e6 : (((va_up s0.1 6 ((s0.1 6) + 4)), s0.2.1, s0.2.2.1, s0.2.2.2) : Md).1 6 = s0.1 6 + 4 := rfl
    refine wq_X7_readsNumber (N := N) (R := R) (W := W) (D := D) (mb_i h rfl rfl rfl) (by rw [e6]; omega) (fun r4 u5 h5 j5 b5 s5 n5 x5 => ⟨fun c3 => ?_, fun c3 => k _ _ D h5 (Or.inl e0) (by rw [e6] at s5; omega) (Or.inl e0)⟩)
    rw [e6] at s5
    refine wq_X7_readsQuoted h5 (by omega) (by omega) (fun r7 u8 h8 j8 b8 s8 n8 x8 => ⟨fun c4 => ?_, fun c4 => k _ _ D h8 (Or.inl e0) (by omega) (Or.inl e0)⟩)
    have c5 := q_neq c4
    have n9 : 0 ≤ (u8.1 10).toInt ∧ 0 ≤ (u8.1 11).toInt ∧ (u8.1 10).toInt + (u8.1 11).toInt ≤ N ∧ 2 ≤ (u8.1 11).toInt ∧ (u8.1 11).toInt ≤ 40 := by omega
    refine wq_X7_drums h8 (fun r10 a10 => ?_)
    have i1 := ix_d (x := r10) (by omega)
    have i2 := ix_d1 (x := r10) (by omega)
    refine ⟨vi (by omega) (by omega), vi (by omega) (by omega), ?_⟩
    have row2 : u8.2 = s0.2 := x8.trans x5
    have r2e : u8.2.2.1 0 2 = s0.2.2.1 0 2 := by rw [row2]
    have r3e : (u8.2.2.1 0 3).toInt = D := h8.2.2.2.2.1.2.2.1
    have dN : r10.toInt.toNat = D.toNat := by rw [a10]
    generalize hv1 : Int32.toInt64 (u5.1 8) = v1
    have v2i := tq_64 (u8.1 11)
    generalize hv2 : Int32.toInt64 (u8.1 11) = v2 at v2i
    rw [i1.1, i2.1, dN]
    have irr1 : ¬ rw_rel (8 + 42 * D.toNat) := by
      unfold rw_rel
      omega
    have rT : rw_ok R W D (vp_updL (vp_updL (u8.2.2.1 0) (8 + 42 * D.toNat) v1) (8 + 42 * D.toNat + 1) v2) := rw_dw (rw_irr h8.2.2.2.2.1 irr1) (by omega) (by omega)
    have hT : mb N R W D (u8.1, u8.2.1, (va_up u8.2.2.1 0 (vp_updL (vp_updL (u8.2.2.1 0) (8 + 42 * D.toNat) v1) (8 + 42 * D.toNat + 1) v2)), u8.2.2.2) := mb_now h8 rfl (fun k hk => by
      show (if k = 0 then _ else u8.2.2.1 k) = _
      rw [if_neg hk]) rfl rT
    obtain ⟨nf, hf⟩ := fu_e 50
    refine ⟨nf, wq_X7_readsDrum_L91 (s := (u8.1, u8.2.1, (va_up u8.2.2.1 0 (vp_updL (vp_updL (u8.2.2.1 0) (8 + 42 * D.toNat) v1) (8 + 42 * D.toNat + 1) v2)), u8.2.2.2)) (D := D) (by omega) (by omega) ⟨n9.1, n9.2.1, n9.2.2.2.2, (by show (u8.1 10).toInt + (u8.1 11).toInt ≤ 400; omega)⟩ (fun t z3 ht b1 b2 b3 b4 => ?_) nf _ 0 hT rfl rfl rfl rfl (by omega) (by omega)⟩
    have d2 : d_f (t.2.2.1 0) D.toNat = v2.toInt := by
      rw [b2]
      show (vp_updL _ (8 + 42 * D.toNat + 1) v2 (8 + 42 * D.toNat + 1)).toInt = _
      rw [ul_at]
    have q2 : t.2.2.1 0 2 = s0.2.2.1 0 2 := by
      rw [b3]
      show vp_updL (vp_updL (u8.2.2.1 0) (8 + 42 * D.toNat) v1) (8 + 42 * D.toNat + 1) v2 2 = _
      rw [ul_ne (by omega), ul_ne (by omega)]
      exact r2e
    have q3 : ((t.2.2.1 0) (Int32.toNatClampNeg 3) + 1).toInt = D + 1 := by
      have e3 : (t.2.2.1 0 3).toInt = D := ht.2.2.2.2.1.2.2.1
      show (t.2.2.1 0 3 + 1).toInt = D + 1
      have l1 : (1 : Int64).toInt = 1 := rfl
      rw [Int64.toInt_add, l1, e3]
      have : (2 ^ 64 : Nat) = 18446744073709551616 := by decide
      rw [this]
      unfold Int.bmod
      dsimp only
      split <;> omega
    have hfin : mb N R W (D + 1) (t.1, t.2.1, (va_up t.2.2.1 0 (vp_updL (t.2.2.1 0) (Int32.toNatClampNeg 3) ((t.2.2.1 0) (Int32.toNatClampNeg 3) + 1))), t.2.2.2) := mb_nowD (t := (t.1, t.2.1, (va_up t.2.2.1 0 (vp_updL (t.2.2.1 0) (Int32.toNatClampNeg 3) ((t.2.2.1 0) (Int32.toNatClampNeg 3) + 1))), t.2.2.2)) ht rfl rfl (fun j hj => by
      show (if j = 0 then _ else t.2.2.1 j) = _
      rw [if_neg hj]) rfl (rw_add ht.2.2.2.2.1 (by omega) (by omega) (by rw [q2]; exact hl) hR q3)
    refine k _ _ (D + 1) hfin (Or.inr e1) ?_ (Or.inr (by omega))
    · show (s0.1 6).toInt ≤ (t.1 6).toInt ∧ (t.1 6).toInt ≤ N
      rw [b1]
      show (s0.1 6).toInt ≤ (u8.1 6).toInt ∧ (u8.1 6).toInt ≤ N
      omega
  · refine wq_X7_fails h (fun r u hu ju a b => ⟨nb_b (by omega), k _ _ D hu (by omega) ?_ (Or.inl (by omega))⟩)
    have := ie_i ju 6 (by decide)
    omega
theorem wq_X7_readsCells_L78 {post : Int32 → Md → Prop} {e99 : Md → Int32 → Int32 → Int32 → Int32 → Prop} {s : Md} {z1 z2 z3 : Int32} (hx : 0 ≤ z3.toInt ∧ z3.toInt < 40) (ke : ∀ (t : Md) (z4 : Int32), t.1 = s.1 → (∀ k, ¬ k = 0 → t.2.2.1 k = s.2.2.1 k) → t.2.2.2 = s.2.2.2 → (∀ i, ¬ (176 + 8 * z3.toInt.toNat ≤ i ∧ i < 176 + 8 * z3.toInt.toNat + 8) → t.2.2.1 0 i = s.2.2.1 0 i) → (∀ j, j < 8 → t.2.2.1 0 (176 + 8 * z3.toInt.toNat + j) = 0) → e99 t z1 z2 z3 z4) : ∀ (n : Nat) (t : Md) (z4 : Int32), t.1 = s.1 → (∀ k, ¬ k = 0 → t.2.2.1 k = s.2.2.1 k) → t.2.2.2 = s.2.2.2 → (∀ i, ¬ (176 + 8 * z3.toInt.toNat ≤ i ∧ i < 176 + 8 * z3.toInt.toNat + 8) → t.2.2.1 0 i = s.2.2.1 0 i) → (∀ j : Nat, (j : Int) < z4.toInt → t.2.2.1 0 (176 + 8 * z3.toInt.toNat + j) = 0) → 0 ≤ z4.toInt ∧ z4.toInt ≤ 8 → 8 - z4.toInt < (n : Int) → wp_X7_readsCells_L78 post e99 n t z1 z2 z3 z4 := by
  have e1 : (1 : Int32).toInt = 1 := rfl
  have e8 : (8 : Int32).toInt = 8 := rfl
  intro n
  induction n with
  | zero =>
    intro t z4 _ _ _ _ _ _ _
    exfalso
    omega
  | succ n ih =>
    intro t z4 a1 a2 a3 a4 a5 i2 i3
    unfold wp_X7_readsCells_L78
    refine ⟨fun c => ke t z4 a1 a2 a3 a4 (fun j hj => a5 j (by have := q_le c; omega)), fun c => ?_⟩
    have c2 := q_nle c
    have s1 := nw (tq_addr e1 z4) (by omega)
    have ix := ix_c (w := z4) hx (by omega)
    unfold wp_X7_sets
    rw [ix.1]
    refine ⟨vi (by omega) (by omega), ih _ _ a1 (fun k hk => ?_) a3 (fun i hi => ?_) (fun j hj => ?_) (by omega) (by omega)⟩
    · show (if k = 0 then _ else t.2.2.1 k) = _
      rw [if_neg hk]
      exact a2 k hk
    · show vp_updL (t.2.2.1 0) (176 + 8 * z3.toInt.toNat + z4.toInt.toNat) 0 i = _
      rw [ul_ne (by omega)]
      exact a4 i hi
    · show vp_updL (t.2.2.1 0) (176 + 8 * z3.toInt.toNat + z4.toInt.toNat) 0 (176 + 8 * z3.toInt.toNat + j) = 0
      by_cases e : j = z4.toInt.toNat
      · rw [e, ul_at]
      · rw [ul_ne (by omega)]
        exact a5 j (by omega)
theorem wq_X7_readsCells_L70 {post : Int32 → Md → Prop} {e116 : Md → Int32 → Int32 → Int32 → Prop} {N R W D : Int} {A : Nat → Int32} (hD : 0 < D) (ke : ∀ (t0 : Md) (z1 z2 z3 : Int32), mb N R W D t0 → ie [] t0.1 A → 0 ≤ z3.toInt ∧ z3.toInt ≤ z2.toInt + 1 ∧ z2.toInt ≤ 39 → 0 ≤ (t0.1 8).toInt ∧ (t0.1 8).toInt < D → e116 t0 z1 z2 z3) : ∀ (n : Nat) (t0 : Md) (z1 z2 z3 : Int32), mb N R W D t0 → ie [] t0.1 A → 0 ≤ z3.toInt ∧ z3.toInt ≤ z2.toInt + 1 ∧ z2.toInt ≤ 39 → 0 ≤ (t0.1 8).toInt ∧ (t0.1 8).toInt < D → z2.toInt - z3.toInt + 1 < (n : Int) → wp_X7_readsCells_L70 post e116 n t0 z1 z2 z3 := by
  have e0 : (0 : Int32).toInt = 0 := rfl
  have e1 : (1 : Int32).toInt = 1 := rfl
  intro n
  induction n with
  | zero =>
    intro t z1 z2 z3 _ _ _ _ _
    exfalso
    omega
  | succ n ih =>
    intro t z1 z2 z3 h j i1 i2 i3
    unfold wp_X7_readsCells_L70
    refine ⟨fun c => ke t z1 z2 z3 h j i1 i2, fun c => ?_⟩
    have c2 := q_nlt c
    have pd := h.2.2.2.1
    have s1 := nw (tq_addr e1 z3) (by omega)
    obtain ⟨nf, hf⟩ := fu_e 50
    refine ⟨nf, wq_X7_readsCells_L78 (s := t) (by omega) (fun u z4 b1 b2 b3 b4 b5 => ?_) nf t 0 rfl (fun _ _ => rfl) rfl (fun _ _ => rfl) (fun k hk => by omega) (by omega) (by omega)⟩
    have u8 : (u.1 8).toInt = (t.1 8).toInt := by rw [b1]
    have ix := ix_c (x := z3) (w := 0) (by omega) (by omega)
    have iz : Int32.toNatClampNeg ((176 + (8 * z3)) + (0 : Int32)) = 176 + 8 * z3.toInt.toNat + 0 := ix.1
    have v := tq_64 (u.1 8)
    unfold wp_X7_sets
    rw [iz]
    generalize Int32.toInt64 (u.1 8) = w at v ⊢
    have hz : ∀ jj, 1 ≤ jj → jj ≤ 4 → c_f (vp_updL (u.2.2.1 0) (176 + 8 * z3.toInt.toNat + 0) w) z3.toInt.toNat jj = 0 := fun jj g1 g2 => by
      rw [c_ne (by omega)]
      unfold c_f
      rw [b5 jj (by omega)]
      rfl
    have hz0 : c_f (vp_updL (u.2.2.1 0) (176 + 8 * z3.toInt.toNat + 0) w) z3.toInt.toNat 0 = w.toInt := c_at
    have rr : rw_ok R W D (vp_updL (u.2.2.1 0) (176 + 8 * z3.toInt.toNat + 0) w) := by
      refine rw_cellG (c := z3.toInt.toNat) h.2.2.2.2.1 (fun i _ hn => ?_) (fun l => ?_)
      · rw [ul_ne (by omega)]
        exact b4 i hn
      · unfold rw_c
        rw [hz 1 (by omega) (by omega), hz 2 (by omega) (by omega), hz 3 (by omega) (by omega), hz 4 (by omega) (by omega), hz0]
        have dd : d_f (vp_updL (u.2.2.1 0) (176 + 8 * z3.toInt.toNat + 0) w) w.toInt.toNat = d_f (t.2.2.1 0) w.toInt.toNat := by
          rw [d_ne (by omega)]
          unfold d_f
          rw [b4 _ (by omega)]
        rw [dd]
        have := h.2.2.2.2.1.2.2.2.2.2.2.1 w.toInt.toNat (by omega)
        refine ⟨by omega, fun g => by omega, fun g => by omega⟩
    refine ⟨vi (by omega) (by omega), ih _ _ _ _ (mb_nowD h (by show u.1 5 = _; rw [b1]) (by show u.1 0 = _; rw [b1]) (fun k hk => ?_) (by show u.2.2.2 0 = _; rw [b3]) rr) (by show ie [] u.1 A; rw [b1]; exact j) (by omega) (by show 0 ≤ (u.1 8).toInt ∧ (u.1 8).toInt < D; omega) (by omega)⟩
    show (if k = 0 then _ else u.2.2.1 k) = _
    rw [if_neg hk]
    exact b2 k hk
theorem wq_X7_readsCells {post : Int32 → Md → Prop} {s0 : Md} {N R W D : Int} (h102932 : mb (N) (R) (W) (D) s0) (h102933 : 0 < D) (h102934 : 0 ≤ (s0.1 6).toInt ∧ (s0.1 6).toInt + 5 ≤ N) (k : ∀ (r : Int32) (u : Md), mb (N) (R) (W) (D) u → ie [1, 2, 6, 7, 8, 9, 10, 11, 12, 13] u.1 s0.1 → (r).toInt = 0 ∨ (r).toInt = 1 → (s0.1 6).toInt ≤ (u.1 6).toInt ∧ (u.1 6).toInt ≤ N → post r u) : wp_X7_readsCells post s0 := by
  unfold wp_X7_readsCells
  have := h102932.1
  have := h102932.2.1
  have := h102932.2.2.1
  have := h102932.2.2.2.1
  have p102935 : (s0.1 5).toInt = N := by omega
  have p102936 : 0 ≤ (s0.1 0).toInt ∧ (s0.1 0).toInt ≤ 10 := by omega
  have p102937 : 0 ≤ N ∧ N ≤ 400 := by omega
  have p102938 : 0 ≤ R ∧ R ≤ 6 ∧ 0 ≤ W ∧ W ≤ 10 ∧ 0 ≤ R * W ∧ R * W ≤ 40 ∧ 0 ≤ D ∧ D ≤ 4 ∧ (D ≤ 0 ∨ 1 ≤ R) ∧ (1 ≤ R ∨ R * W = 0) := by omega
  have B102939 : mb (N) (R) (W) (D) ((va_up s0.1 6 ((s0.1 6) + 5)), s0.2.1, s0.2.2.1, s0.2.2.2) := ⟨p102935, p102936, p102937, p102938, h102932.2.2.2.2.1, h102932.2.2.2.2.2.1, h102932.2.2.2.2.2.2.1, h102932.2.2.2.2.2.2.2⟩
  refine wq_X7_cells B102939 (fun r_1 q102940 => ?_)
  replace q102940 : (r_1).toInt = R * W := q102940
  have e102941 := tq_addr li_5 (s0.1 6)
  try rw [Int.emod_eq_of_lt (show 0 ≤ (s0.1 6).toInt + 5 + 2147483648 by omega) (show (s0.1 6).toInt + 5 + 2147483648 < 4294967296 by omega)] at e102941
  have p102942 : 0 ≤ ((s0.1 6) + 5).toInt ∧ ((s0.1 6) + 5).toInt ≤ N := by omega
  refine wq_X7_readsNumber B102939 p102942 (fun r_3 u_4 q102943 q102944 q102945 q102946 q102947 q102948 => ?_)
  have := q102943.1
  have := q102943.2.1
  replace q102945 : (r_3).toInt = 0 ∨ (r_3).toInt = 1 := q102945
  replace q102946 : ((s0.1 6) + 5).toInt ≤ (u_4.1 6).toInt ∧ (u_4.1 6).toInt ≤ N := q102946
  replace q102947 : (r_3).toInt = 0 ∨ (((0 : Int32)).toInt ≤ (u_4.1 8).toInt ∧ (u_4.1 8).toInt ≤ (r_1 - 1).toInt) := q102947
  try simp only [li_0] at q102947
  have e102949 := tq_subr li_1 r_1
  try rw [Int.emod_eq_of_lt (show 0 ≤ (r_1).toInt - 1 + 2147483648 by omega) (show (r_1).toInt - 1 + 2147483648 < 4294967296 by omega)] at e102949
  refine ⟨fun c102950 => ?_, fun c102951 => ?_⟩
  · replace c102950 := q_neq c102950
    rw [li_0] at c102950
    refine wq_X7_cells q102943 (fun r_6 q102952 => ?_)
    have p102953 : 0 ≤ (u_4.1 6).toInt ∧ (u_4.1 6).toInt ≤ N := by omega
    refine wq_X7_readsNumber q102943 p102953 (fun r_8 u_9 q102954 q102955 q102956 q102957 q102958 q102959 => ?_)
    have := q102954.1
    have := q102954.2.1
    have e102960 := tq_subr li_1 r_6
    try rw [Int.emod_eq_of_lt (show 0 ≤ (r_6).toInt - 1 + 2147483648 by omega) (show (r_6).toInt - 1 + 2147483648 < 4294967296 by omega)] at e102960
    refine ⟨fun c102961 => ?_, fun c102962 => ?_⟩
    · replace c102961 := q_neq c102961
      rw [li_0] at c102961
      refine wq_X7_drums q102954 (fun r_11 q102963 => ?_)
      have p102964 : 0 ≤ (u_9.1 6).toInt ∧ (u_9.1 6).toInt ≤ N := by omega
      refine wq_X7_readsNumber q102954 p102964 (fun r_13 u_14 q102965 q102966 q102967 q102968 q102969 q102970 => ?_)
      have := q102965.1
      have := q102965.2.1
      try simp only [li_0] at q102969
      have e102971 := tq_subr li_1 r_11
      try rw [Int.emod_eq_of_lt (show 0 ≤ (r_11).toInt - 1 + 2147483648 by omega) (show (r_11).toInt - 1 + 2147483648 < 4294967296 by omega)] at e102971
      refine ⟨fun c102972 => ?_, fun c102973 => ?_⟩
      · replace c102972 := q_neq c102972
        rw [li_0] at c102972
        have p102974 : 0 < D := by omega
        have p102975 : ie [] u_14.1 u_14.1 := (ie_refl _ _)
        have p102976 : 0 ≤ (u_4.1 8).toInt ∧ (u_4.1 8).toInt ≤ (u_9.1 8).toInt + 1 ∧ (u_9.1 8).toInt ≤ 39 := by omega
        have p102977 : 0 ≤ (u_14.1 8).toInt ∧ (u_14.1 8).toInt < D := by omega
        obtain ⟨f102978, g102979⟩ := fu_e 50
        have p102980 : (u_9.1 8).toInt - (u_4.1 8).toInt + 1 < (f102978 : Int) := by (omega)
        refine ⟨f102978, wq_X7_readsCells_L70 p102974 (fun t0 z1 z2 z3 q102981 q102982 q102983 q102984 => ?_) f102978 _ _ _ _ q102965 p102975 p102976 p102977 p102980⟩
        have := q102981.1
        have := q102981.2.1
        have : (t0.1 8).toInt = (u_14.1 8).toInt := ie_i q102982 8 (by decide)
        have p102985 : ie [1, 2, 6, 7, 8, 9, 10, 11, 12, 13] t0.1 s0.1 := (ie_tr q102982 (by decide) (ie_tr q102966 (by decide) (ie_tr q102955 (by decide) (ie_tr q102944 (by decide) (ie_up (ie_refl _ _) (by decide))))))
        have p102986 : (1 : Int32).toInt = 0 ∨ (1 : Int32).toInt = 1 := by (have := li_1; omega)
        have : (t0.1 6).toInt = (u_14.1 6).toInt := ie_i q102982 6 (by decide)
        have p102987 : (s0.1 6).toInt ≤ (t0.1 6).toInt ∧ (t0.1 6).toInt ≤ N := by omega
        exact k _ _ q102981 p102985 p102986 p102987
      · replace c102973 := q_eq c102973
        rw [li_0] at c102973
        have p102988 : ie [1, 2, 6, 7, 8, 9, 10, 11, 12, 13] u_14.1 s0.1 := (ie_tr q102966 (by decide) (ie_tr q102955 (by decide) (ie_tr q102944 (by decide) (ie_up (ie_refl _ _) (by decide)))))
        have p102989 : (0 : Int32).toInt = 0 ∨ (0 : Int32).toInt = 1 := by (have := li_0; omega)
        have p102990 : (s0.1 6).toInt ≤ (u_14.1 6).toInt ∧ (u_14.1 6).toInt ≤ N := by omega
        exact k _ _ q102965 p102988 p102989 p102990
    · replace c102962 := q_eq c102962
      rw [li_0] at c102962
      have p102991 : ie [1, 2, 6, 7, 8, 9, 10, 11, 12, 13] u_9.1 s0.1 := (ie_tr q102955 (by decide) (ie_tr q102944 (by decide) (ie_up (ie_refl _ _) (by decide))))
      have p102992 : (0 : Int32).toInt = 0 ∨ (0 : Int32).toInt = 1 := by (have := li_0; omega)
      have p102993 : (s0.1 6).toInt ≤ (u_9.1 6).toInt ∧ (u_9.1 6).toInt ≤ N := by omega
      exact k _ _ q102954 p102991 p102992 p102993
  · replace c102951 := q_eq c102951
    rw [li_0] at c102951
    have p102994 : ie [1, 2, 6, 7, 8, 9, 10, 11, 12, 13] u_4.1 s0.1 := (ie_tr q102944 (by decide) (ie_up (ie_refl _ _) (by decide)))
    have p102995 : (0 : Int32).toInt = 0 ∨ (0 : Int32).toInt = 1 := by (have := li_0; omega)
    have p102996 : (s0.1 6).toInt ≤ (u_4.1 6).toInt ∧ (u_4.1 6).toInt ≤ N := by omega
    exact k _ _ q102943 p102994 p102995 p102996
theorem isw_s {post : Int32 → Md → Prop} {s0 : Md} {i1 : Nat} {N R W D : Int} (h : mb N R W D s0) (h6 : 0 ≤ (s0.1 6).toInt ∧ (s0.1 6).toInt ≤ N) (hi : 1 ≤ ln i1 ∧ ln i1 ≤ 9) (nb : ¬ tb7 s0 (s0.1 6) = 32) (k1 : ∀ r : Int32, r.toInt = 1 → wd_y s0 i1 → (s0.1 6).toInt + ln i1 ≤ N → post r s0) (k0 : ∀ r : Int32, r.toInt = 0 → ¬ wd_y s0 i1 → post r s0) : wp_X7_isWord post s0 i1 := by
  refine wq_X7_isWord h h6 hi (fun r u hu ju b s n e x => ?_)
  have eq := x.2.2 nb
  subst eq
  rcases x.1 with g | g
  · exact k1 r g.1 g.2 (by omega)
  · exact k0 r g.1 g.2
theorem rp_b {post : Int32 → Md → Prop} {u : Md} {N R W D : Int} (h : mb N R W D u) (h6 : 0 ≤ (u.1 6).toInt ∧ (u.1 6).toInt ≤ N) (nb : ¬ tb7 u (u.1 6) = 32) (hw : (u.1 6).toInt + 4 ≤ N ∨ (wd_y u 3 ∨ wd_y u 4 ∨ wd_y u 5)) (hR : 1 ≤ R) (k : ∀ (r : Int32) (v : Md) (D4 : Int), mb N R W D4 v → (r.toInt = 0 ∨ r.toInt = 1) → (u.1 6).toInt ≤ (v.1 6).toInt ∧ (v.1 6).toInt ≤ N → (r.toInt = 0 ∨ 0 < D4) → post r v) : wp_X7_drums (fun r_7 => ((¬ (r_7 = 0)) → (wp_X7_isWord (fun r_10 u_11 => ((r_10 = 0) → (wp_X7_isWord (fun r_13 u_14 => ((r_13 = 0) → (wp_X7_isWord (fun r_16 u_17 => ((r_16 = 0) → (wp_X7_readsLose (fun r_19 u_20 => ((¬ (r_19 = 0)) → (wp_X7_sets (fun u_23 => post 1 u_23) u_20 (u_20.1 12) (4 : Int32) (Int32.toInt64 (u_20.1 8)))) ∧ ((r_19 = 0) → (post 0 u_20))) u_17)) ∧ ((¬ (r_16 = 0)) → (wp_X7_readsRow (fun r_24 u_25 => ((narrow .boolean (.int r_24)) = (.int r_24)) ∧ (post r_24 u_25)) u_17))) u_14 5)) ∧ ((¬ (r_13 = 0)) → (wp_X7_readsWorn (fun r_27 u_28 => ((narrow .boolean (.int r_27)) = (.int r_27)) ∧ (post r_27 u_28)) u_14))) u_11 4)) ∧ ((¬ (r_10 = 0)) → (wp_X7_readsCells (fun r_30 u_31 => ((narrow .boolean (.int r_30)) = (.int r_30)) ∧ (post r_30 u_31)) u_11))) u 3)) ∧ ((r_7 = 0) → (wp_X7_fails (fun r_33 u_34 => ((narrow .boolean (.int r_33)) = (.int r_33)) ∧ (post r_33 u_34)) u (3 : Int32) (u.1 6)))) u := by
  have e0 : (0 : Int32).toInt = 0 := rfl
  have e1 : (1 : Int32).toInt = 1 := rfl
  have l3 : ln 3 = 5 := rfl
  have l4 : ln 4 = 4 := rfl
  have l5 : ln 5 = 3 := rfl
  have pd := h.2.2.2.1
  refine wq_X7_drums h (fun r7 a7 => ⟨fun c7 => ?_, fun c7 => ?_⟩)
  · have c8 := q_neq c7
    have hD : 0 < D := by omega
    refine isw_s h h6 (by decide) nb (fun r q w b => ⟨fun g => by have := q_eq g; omega, fun _ => ?_⟩) (fun r q w3 => ⟨fun _ => ?_, fun g => by have := q_neq g; omega⟩)
    · exact wq_X7_readsCells h hD (by omega) (fun r v hv jv bv sv => ⟨nb_b bv, k _ _ D hv bv sv (Or.inr hD)⟩)
    refine isw_s h h6 (by decide) nb (fun r q w b => ⟨fun g => by have := q_eq g; omega, fun _ => ?_⟩) (fun r q w4 => ⟨fun _ => ?_, fun g => by have := q_neq g; omega⟩)
    · exact wq_X7_readsWorn h hD (Or.inr hD) (by omega) (fun r v hv jv bv sv => ⟨nb_b bv, k _ _ D hv bv sv (Or.inr hD)⟩)
    refine isw_s h h6 (by decide) nb (fun r q w b => ⟨fun g => by have := q_eq g; omega, fun _ => ?_⟩) (fun r q w5 => ⟨fun _ => ?_, fun g => by have := q_neq g; omega⟩)
    · exact wq_X7_readsRow h hD (by omega) (fun r v hv jv bv sv => ⟨nb_b bv, k _ _ D hv bv sv (Or.inr hD)⟩)
    have h4 : (u.1 6).toInt + 4 ≤ N := by
      rcases hw with g | g | g | g
      · exact g
      · exact absurd g w3
      · exact absurd g w4
      · exact absurd g w5
    refine wq_X7_readsLose h (by omega) (fun r19 u20 h20 j20 b20 s20 n20 => ⟨fun g => ?_, fun g => k _ _ D h20 (Or.inl e0) s20 (Or.inl e0)⟩)
    have g2 := q_neq g
    have t8 := tq_64 (u20.1 8)
    have pd2 := h20.2.2.2.1
    refine wq_X7_sets_4 h20 (by omega) (by omega) (fun v hv jv xv => k _ _ D hv (Or.inr e1) ?_ (Or.inr hD))
    have := ie_i jv 6 (by decide)
    omega
  · refine wq_X7_fails h (fun r v hv jv a b => ⟨nb_b (by omega), k _ _ D hv (by omega) ?_ (Or.inl (by omega))⟩)
    have := ie_i jv 6 (by decide)
    omega
theorem wq_X7_readsPart {post : Int32 → Md → Prop} {s0 : Md} {N R W D : Int} (h : mb N R W D s0) (hR : 1 ≤ R) (hl : 1 ≤ (s0.2.2.1 0 2).toInt) (h6 : 0 ≤ (s0.1 6).toInt ∧ (s0.1 6).toInt ≤ N) (k : ∀ (r : Int32) (u : Md) (D4 : Int), mb N R W D4 u → (r.toInt = 0 ∨ r.toInt = 1) → (s0.1 6).toInt ≤ (u.1 6).toInt ∧ (u.1 6).toInt ≤ N → (r.toInt = 0 ∨ 0 < D4) → post r u) : wp_X7_readsPart post s0 := by
  unfold wp_X7_readsPart
  have e0 : (0 : Int32).toInt = 0 := rfl
  have e1 : (1 : Int32).toInt = 1 := rfl
  have l2 : ln 2 = 4 := rfl
  have l3 : ln 3 = 5 := rfl
  have l4 : ln 4 = 4 := rfl
  have l5 : ln 5 = 3 := rfl
  have l6 : ln 6 = 4 := rfl
  refine wq_X7_isWord h h6 (by decide) (fun r1 u hu ju b s n e x => ?_)
  have nb := x.2.1
  have k2 : ∀ (r : Int32) (v : Md) (D4 : Int), mb N R W D4 v → (r.toInt = 0 ∨ r.toInt = 1) → (u.1 6).toInt ≤ (v.1 6).toInt ∧ (v.1 6).toInt ≤ N → (r.toInt = 0 ∨ 0 < D4) → post r v := fun r v D4 a1 a2 a3 a4 => k r v D4 a1 a2 (by omega) a4
  refine ⟨fun c => ?_, fun c => ?_⟩
  · refine isw_s hu (by omega) (by decide) nb (fun r q w b => ⟨fun _ => rp_b hu (by omega) nb (Or.inr (Or.inl w)) hR k2, fun g => by have := q_eq g; omega⟩) (fun r q w3 => ⟨fun g => by have := q_neq g; omega, fun _ => ?_⟩)
    refine isw_s hu (by omega) (by decide) nb (fun r q w b => ⟨fun _ => rp_b hu (by omega) nb (Or.inr (Or.inr (Or.inl w))) hR k2, fun g => by have := q_eq g; omega⟩) (fun r q w4 => ⟨fun g => by have := q_neq g; omega, fun _ => ?_⟩)
    refine isw_s hu (by omega) (by decide) nb (fun r q w b => ⟨fun _ => rp_b hu (by omega) nb (Or.inr (Or.inr (Or.inr w))) hR k2, fun g => by have := q_eq g; omega⟩) (fun r q w5 => ⟨fun g => by have := q_neq g; omega, fun _ => ?_⟩)
    refine isw_s hu (by omega) (by decide) nb (fun r q w b => ⟨fun g => by have := q_eq g; omega, fun _ => rp_b hu (by omega) nb (Or.inl (by omega)) hR k2⟩) (fun r q w6 => ⟨fun _ => ?_, fun g => by have := q_neq g; omega⟩)
    refine wq_X7_fails hu (fun r v hv jv a b => ⟨nb_b (by omega), k2 _ _ D hv (by omega) ?_ (Or.inl (by omega))⟩)
    have := ie_i jv 6 (by decide)
    omega
  · have c2 := q_neq c
    refine wq_X7_readsDrum hu hR (by rw [e]; exact hl) (by omega) (fun r v D4 hv bv sv nv => ⟨nb_b bv, k2 _ _ D4 hv bv sv nv⟩)
theorem rw_hd {R W D R2 W2 : Int} {f g : Nat → Int64} (hf : rw_ok R W D f) (hD : D ≤ 0) (h : ∀ i, 2 ≤ i → g i = f i) (h0 : (g 0).toInt = R2) (h1 : (g 1).toInt = W2) (hp : 1 ≤ R2 ∧ R2 ≤ 6 ∧ 0 ≤ W2 ∧ W2 ≤ 10 ∧ 0 ≤ R2 * W2 ∧ R2 * W2 ≤ 40) : rw_ok R2 W2 D g := by
  obtain ⟨a0, a1, a2, a3, a4, a5, a6, a7⟩ := hf
  have hc : ∀ c j, c_f g c j = c_f f c j := fun c j => by
    unfold c_f
    rw [h _ (by omega)]
  refine ⟨h0, h1, by rw [h 3 (by decide)]; exact a2, Or.inl hD, by rw [h 2 (by decide)]; exact a4, by omega, fun d hd => by omega, fun c hcc => ?_⟩
  obtain ⟨q1, q2, q3⟩ := a7 c hcc
  unfold rw_c
  rw [hc c 0, hc c 1, hc c 2, hc c 3, hc c 4]
  exact ⟨q1, q2, fun g => by omega⟩
theorem wq_X7_readsBoard_L116 {post : Int32 → Md → Prop} {e147 e149 : Md → Prop} {N R W : Int} (hR : 1 ≤ R) (k147 : ∀ (t : Md) (D : Int), mb N R W D t → e147 t) (k149 : ∀ (t : Md) (D : Int), mb N R W D t → 0 ≤ (t.1 6).toInt ∧ (t.1 6).toInt ≤ N → e149 t) : ∀ (n : Nat) (t : Md) (D : Int), mb N R W D t → 1 ≤ (t.2.2.1 0 2).toInt → 0 ≤ (t.1 6).toInt ∧ (t.1 6).toInt ≤ N → N - (t.1 6).toInt < (n : Int) → wp_X7_readsBoard_L116 post e147 e149 n t := by
  have e0 : (0 : Int32).toInt = 0 := rfl
  have e1 : (1 : Int32).toInt = 1 := rfl
  have e59 : (59 : Int32).toInt = 59 := rfl
  intro n
  induction n with
  | zero =>
    intro t D _ _ _ _
    exfalso
    omega
  | succ n ih =>
    intro t D h hl h6 hm
    unfold wp_X7_readsBoard_L116
    refine wq_X7_nextByte h h6 (fun r u hu ju b1 b2 bE b3 => ⟨fun c => k149 u D hu (by omega), fun c => ?_⟩)
    have c2 := q_eq c
    have pn := hu.2.2.1
    have s1 := nw (tq_addr e1 (u.1 6)) (by omega)
    have e6 : (((va_up u.1 6 ((u.1 6) + 1)), u.2.1, u.2.2.1, u.2.2.2) : Md).1 6 = u.1 6 + 1 := rfl
    refine wq_X7_nextByte (N := N) (R := R) (W := W) (D := D) (mb_i hu rfl rfl rfl) (by rw [e6]; omega) (fun r2 v hv jv d1 d2 dE d3 => ?_)
    rw [e6] at d1
    have lv : 1 ≤ (v.2.2.1 0 2).toInt := by
      have e : v.2 = t.2 := dE.trans bE
      rw [e]
      exact hl
    refine wq_X7_readsPart hv hR lv (by omega) (fun r3 w D4 hw bw sw nw4 => ⟨fun g => ?_, fun g => k147 w D4 hw⟩)
    have g2 := q_neq g
    exact ih w D4 hw (mb_lim hw (by omega)) (by omega) (by omega)
theorem wq_X7_readsBoard_L116b {post : Int32 → Md → Prop} {e147 e149 : Md → Prop} {N R W : Int} (hR : 1 ≤ R) (k147 : ∀ (t : Md) (D : Int), mb N R W D t → e147 t) (k149 : ∀ (t : Md) (D : Int), mb N R W D t → 0 ≤ (t.1 6).toInt ∧ (t.1 6).toInt ≤ N → e149 t) : ∀ (n : Nat) (t : Md) (D : Int), mb N R W D t → 1 ≤ (t.2.2.1 0 2).toInt → 0 ≤ (t.1 6).toInt ∧ (t.1 6).toInt ≤ N → N - (t.1 6).toInt < (n : Int) → wp_X7_readsBoard_L116b post e147 e149 n t := by
  have e0 : (0 : Int32).toInt = 0 := rfl
  have e1 : (1 : Int32).toInt = 1 := rfl
  have e59 : (59 : Int32).toInt = 59 := rfl
  intro n
  induction n with
  | zero =>
    intro t D _ _ _ _
    exfalso
    omega
  | succ n ih =>
    intro t D h hl h6 hm
    unfold wp_X7_readsBoard_L116b
    refine wq_X7_nextByte h h6 (fun r u hu ju b1 b2 bE b3 => ⟨fun c => k149 u D hu (by omega), fun c => ?_⟩)
    have c2 := q_eq c
    have pn := hu.2.2.1
    have s1 := nw (tq_addr e1 (u.1 6)) (by omega)
    have e6 : (((va_up u.1 6 ((u.1 6) + 1)), u.2.1, u.2.2.1, u.2.2.2) : Md).1 6 = u.1 6 + 1 := rfl
    refine wq_X7_nextByte (N := N) (R := R) (W := W) (D := D) (mb_i hu rfl rfl rfl) (by rw [e6]; omega) (fun r2 v hv jv d1 d2 dE d3 => ?_)
    rw [e6] at d1
    have lv : 1 ≤ (v.2.2.1 0 2).toInt := by
      have e : v.2 = t.2 := dE.trans bE
      rw [e]
      exact hl
    refine wq_X7_readsPart hv hR lv (by omega) (fun r3 w D4 hw bw sw nw4 => ⟨fun g => ?_, fun g => k147 w D4 hw⟩)
    have g2 := q_neq g
    exact ih w D4 hw (mb_lim hw (by omega)) (by omega) (by omega)
theorem rb_end {post : Int32 → Md → Prop} {t0 : Md} {N R W D : Int} (h : mb N R W D t0) (h6 : 0 ≤ (t0.1 6).toInt ∧ (t0.1 6).toInt ≤ N) (k : ∀ (r : Int32) (u : Md) (R4 W4 D4 : Int), mb N R4 W4 D4 u → (r.toInt = 0 ∨ 0 < D4) → post r u) : wp_X7_nextByte (fun r_28 u_29 => ((r_28 = (-1) → wp_X7_drums (fun r_31 => ((0 < r_31 → post 1 u_29) ∧ (¬ 0 < r_31 → wp_X7_fails (fun r_34 u_35 => ((r_34 = 0 → post 0 u_35) ∧ (¬ r_34 = 0 → post 1 u_35))) u_29 (4 : Int32) (u_29.1 5)))) u_29) ∧ (¬ r_28 = (-1) → wp_X7_fails (fun r_37 u_38 => narrow .boolean (.int r_37) = .int r_37 ∧ post r_37 u_38) u_29 (1 : Int32) (u_29.1 6)))) t0 := by
  have e0 : (0 : Int32).toInt = 0 := rfl
  refine wq_X7_nextByte h h6 (fun r u hu ju b1 b2 bE b3 => ⟨fun c => ?_, fun c => ?_⟩)
  · refine wq_X7_drums hu (fun r31 a31 => ⟨fun g => k _ _ R W D hu (Or.inr ?_), fun g => ?_⟩)
    · have := q_lt g
      omega
    · exact wq_X7_fails hu (fun r34 v hv jv a b => ⟨fun _ => k _ _ R W D hv (Or.inl e0), fun g2 => absurd (q_neq g2) (by omega)⟩)
  · exact wq_X7_fails hu (fun r34 v hv jv a b => ⟨nb_b (by omega), k _ _ R W D hv (Or.inl (by omega))⟩)
theorem wq_X7_readsBoard {post : Int32 → Md → Prop} {s0 : Md} {N : Int} (h : mb N 0 0 0 s0) (k : ∀ (r : Int32) (u : Md) (R4 W4 D4 : Int), mb N R4 W4 D4 u → (r.toInt = 0 ∨ 0 < D4) → post r u) : wp_X7_readsBoard post s0 := by
  unfold wp_X7_readsBoard
  have e0 : (0 : Int32).toInt = 0 := rfl
  have e1 : (1 : Int32).toInt = 1 := rfl
  have e6 : (6 : Int32).toInt = 6 := rfl
  have e10 : (10 : Int32).toInt = 10 := rfl
  have e99 : (99 : Int32).toInt = 99 := rfl
  have pn := h.2.2.1
  have hs : mb N 0 0 0 ((va_up s0.1 6 0), s0.2.1, s0.2.2.1, s0.2.2.2) := mb_i h rfl rfl rfl
  have z6 : (((va_up s0.1 6 0), s0.2.1, s0.2.2.1, s0.2.2.2) : Md).1 6 = 0 := rfl
  refine wq_X7_mustWord hs (by rw [z6]; omega) (by decide) (fun r1 u2 h2 j2 b2 s2 x2 => ⟨fun _ => k _ _ _ _ _ h2 (Or.inl e0), fun _ => ?_⟩)
  rw [z6] at s2
  refine wq_X7_readsNumber h2 (by omega) (fun r4 u5 h5 j5 b5 s5 n5 x5 => ⟨fun c4 => ?_, fun _ => k _ _ _ _ _ h5 (Or.inl e0)⟩)
  have c4 := q_neq c4
  have v5 := tq_64 (u5.1 8)
  generalize Int32.toInt64 (u5.1 8) = w5 at v5 ⊢
  have hT : mb N (u5.1 8).toInt 0 0 (u5.1, u5.2.1, (va_up u5.2.2.1 0 (vp_updL (u5.2.2.1 0) (Int32.toNatClampNeg 0) w5)), u5.2.2.2) := by
    refine mb_nowD (t := (u5.1, u5.2.1, (va_up u5.2.2.1 0 (vp_updL (u5.2.2.1 0) (Int32.toNatClampNeg 0) w5)), u5.2.2.2)) h5 rfl rfl (fun j hj => ?_) rfl (rw_hd h5.2.2.2.2.1 (by omega) (fun i hi => ?_) ?_ ?_ (by omega))
    · show (if j = 0 then _ else u5.2.2.1 j) = _
      rw [if_neg hj]
    · show vp_updL (u5.2.2.1 0) 0 w5 i = _
      rw [ul_ne (by omega)]
    · show (vp_updL (u5.2.2.1 0) 0 w5 0).toInt = _
      rw [ul_at]
      exact v5
    · show (vp_updL (u5.2.2.1 0) 0 w5 1).toInt = 0
      rw [ul_ne (by decide)]
      exact h5.2.2.2.2.1.2.1
  have t6 : ((u5.1, u5.2.1, (va_up u5.2.2.1 0 (vp_updL (u5.2.2.1 0) (Int32.toNatClampNeg 0) w5)), u5.2.2.2) : Md).1 6 = u5.1 6 := rfl
  generalize hTt : ((u5.1, u5.2.1, (va_up u5.2.2.1 0 (vp_updL (u5.2.2.1 0) (Int32.toNatClampNeg 0) w5)), u5.2.2.2) : Md) = T at hT t6 ⊢
  -- the rest, for a bound on the width
  have rest : ∀ u12 : Md, mb N (u5.1 8).toInt 0 0 u12 → 0 ≤ (u12.1 6).toInt ∧ (u12.1 6).toInt ≤ N → 1 ≤ (u12.1 8).toInt ∧ (u12.1 8).toInt ≤ (if (40 / (u5.1 8)) < (10 : Int32) then (40 / (u5.1 8)) else (10 : Int32)).toInt → mb N (u5.1 8).toInt (u12.1 8).toInt 0 (u12.1, u12.2.1, (va_up u12.2.2.1 0 (vp_updL (u12.2.2.1 0) (Int32.toNatClampNeg 1) (Int32.toInt64 (u12.1 8)))), u12.2.2.2) := fun u12 h12 s12 n12 => by
    have hb := hd_b (a := u5.1 8) (b := u12.1 8) (by omega) n12
    have v12 := tq_64 (u12.1 8)
    refine mb_nowD (t := (u12.1, u12.2.1, (va_up u12.2.2.1 0 (vp_updL (u12.2.2.1 0) (Int32.toNatClampNeg 1) (Int32.toInt64 (u12.1 8)))), u12.2.2.2)) h12 rfl rfl (fun j hj => ?_) rfl (rw_hd h12.2.2.2.2.1 (by omega) (fun i hi => ?_) ?_ ?_ (by omega))
    · show (if j = 0 then _ else u12.2.2.1 j) = _
      rw [if_neg hj]
    · show vp_updL (u12.2.2.1 0) 1 (Int32.toInt64 (u12.1 8)) i = _
      rw [ul_ne (by omega)]
    · show (vp_updL (u12.2.2.1 0) 1 (Int32.toInt64 (u12.1 8)) 0).toInt = _
      rw [ul_ne (by decide)]
      exact h12.2.2.2.2.1.1
    · show (vp_updL (u12.2.2.1 0) 1 (Int32.toInt64 (u12.1 8)) 1).toInt = _
      rw [ul_at]
      exact v12
  have lim : ∀ (u18 : Md) (W4 : Int), mb N (u5.1 8).toInt W4 0 u18 → 1 ≤ (u18.1 8).toInt ∧ (u18.1 8).toInt ≤ 99 → mb N (u5.1 8).toInt W4 0 (u18.1, u18.2.1, (va_up u18.2.2.1 0 (vp_updL (u18.2.2.1 0) (Int32.toNatClampNeg 2) (Int32.toInt64 (u18.1 8)))), u18.2.2.2) ∧ 1 ≤ (((u18.1, u18.2.1, (va_up u18.2.2.1 0 (vp_updL (u18.2.2.1 0) (Int32.toNatClampNeg 2) (Int32.toInt64 (u18.1 8)))), u18.2.2.2) : Md).2.2.1 0 2).toInt := fun u18 W4 h18 n18 => by
    have v18 := tq_64 (u18.1 8)
    refine ⟨mb_now h18 rfl (fun j hj => ?_) rfl (rw_lim h18.2.2.2.2.1 (by omega)), ?_⟩
    · show (if j = 0 then _ else u18.2.2.1 j) = _
      rw [if_neg hj]
    · show 1 ≤ (vp_updL (u18.2.2.1 0) 2 (Int32.toInt64 (u18.1 8)) 2).toInt
      rw [ul_at]
      omega
  have fin : ∀ (t : Md) (D : Int) (W4 : Int), mb N (u5.1 8).toInt W4 D t → post 0 t := fun t D W4 ht => k _ _ _ _ _ ht (Or.inl e0)
  have same : ∀ r : Int32, r.toInt = (u5.1 8).toInt → r = u5.1 8 := fun r e => Int32.toInt_inj.mp e
  refine wq_X7_rows hT (fun r7 a7 => ?_)
  have q7 := same r7 a7
  subst q7
  refine ⟨z_ne (by omega), fun c10 => ?_, fun c10 => ?_⟩
  · have c11 := q_le c10
    refine wq_X7_readsNumber hT (by rw [t6]; omega) (fun r11 u12 h12 j12 b12 s12 n12 x12 => ⟨fun c12 => ?_, fun _ => k _ _ _ _ _ h12 (Or.inl e0)⟩)
    rw [t6] at s12
    have c13 := q_neq c12
    have m := rest u12 h12 (by omega) (by have q := tq_ite (a := 40 / (u5.1 8)) (b := 10) (x := 40 / (u5.1 8)) (y := 10); omega)
    refine wq_X7_mustWord m (by show 0 ≤ (u12.1 6).toInt ∧ (u12.1 6).toInt ≤ N; omega) (by decide) (fun r14 u15 h15 j15 b15 s15 x15 => ⟨fun _ => fin _ _ _ h15, fun _ => ?_⟩)
    have s15' : (u12.1 6).toInt ≤ (u15.1 6).toInt ∧ (u15.1 6).toInt ≤ N := s15
    refine wq_X7_readsNumber h15 (by omega) (fun r17 u18 h18 j18 b18 s18 n18 x18 => ⟨fun c17 => ?_, fun _ => fin _ _ _ h18⟩)
    have c18 := q_neq c17
    have mm := lim u18 _ h18 (by omega)
    obtain ⟨nf, hf⟩ := fu_e 500
    exact ⟨nf, wq_X7_readsBoard_L116 (by omega) (fun t D ht => fin t D _ ht) (fun t D ht s => rb_end ht s k) nf _ 0 mm.1 mm.2 (by show 0 ≤ (u18.1 6).toInt ∧ (u18.1 6).toInt ≤ N; omega) (by show N - (u18.1 6).toInt < (nf : Int); omega)⟩
  · have c11 := q_nle c10
    refine wq_X7_rows hT (fun r40 a40 => ?_)
    have q40 := same r40 a40
    subst q40
    refine ⟨z_ne (by omega), ?_⟩
    refine wq_X7_readsNumber hT (by rw [t6]; omega) (fun r11 u12 h12 j12 b12 s12 n12 x12 => ⟨fun c12 => ?_, fun _ => k _ _ _ _ _ h12 (Or.inl e0)⟩)
    rw [t6] at s12
    have c13 := q_neq c12
    have m := rest u12 h12 (by omega) (by have q := tq_ite (a := 40 / (u5.1 8)) (b := 10) (x := 40 / (u5.1 8)) (y := 10); omega)
    refine wq_X7_mustWord m (by show 0 ≤ (u12.1 6).toInt ∧ (u12.1 6).toInt ≤ N; omega) (by decide) (fun r14 u15 h15 j15 b15 s15 x15 => ⟨fun _ => fin _ _ _ h15, fun _ => ?_⟩)
    have s15' : (u12.1 6).toInt ≤ (u15.1 6).toInt ∧ (u15.1 6).toInt ≤ N := s15
    refine wq_X7_readsNumber h15 (by omega) (fun r17 u18 h18 j18 b18 s18 n18 x18 => ⟨fun c17 => ?_, fun _ => fin _ _ _ h18⟩)
    have c18 := q_neq c17
    have mm := lim u18 _ h18 (by omega)
    obtain ⟨nf, hf⟩ := fu_e 500
    exact ⟨nf, wq_X7_readsBoard_L116b (by omega) (fun t D ht => fin t D _ ht) (fun t D ht s => rb_end ht s k) nf _ 0 mm.1 mm.2 (by show 0 ≤ (u18.1 6).toInt ∧ (u18.1 6).toInt ≤ N; omega) (by show N - (u18.1 6).toInt < (nf : Int); omega)⟩
theorem wq_X7_tell_L6 {post : Int32 → Md → Prop} {e26 : Md → Int32 → Prop} {s : Md} (ke : ∀ (t : Md) (z : Int32), t.1 = s.1 → t.2.2.2 = s.2.2.2 → (∀ j, ¬ j = 0 → t.2.2.1 j = s.2.2.1 j) → (∀ i : Nat, i < 6896 → t.2.2.1 0 i = 0) → e26 t z) : ∀ (n : Nat) (t : Md) (z1 : Int32), t.1 = s.1 → t.2.2.2 = s.2.2.2 → (∀ j, ¬ j = 0 → t.2.2.1 j = s.2.2.1 j) → (∀ i : Nat, (i : Int) < z1.toInt → t.2.2.1 0 i = 0) → 0 ≤ z1.toInt ∧ z1.toInt ≤ 6896 → 6896 - z1.toInt < (n : Int) → wp_X7_tell_L6 post e26 n t z1 := by
  have e1 : (1 : Int32).toInt = 1 := rfl
  have eR : (6896 : Int32).toInt = 6896 := rfl
  intro n
  induction n with
  | zero =>
    intro t z1 _ _ _ _ _ _
    exfalso
    omega
  | succ n ih =>
    intro t z1 a1 a3 a4 a5 i2 i3
    unfold wp_X7_tell_L6
    refine ⟨fun c => ke t z1 a1 a3 a4 (fun i hi => a5 i (by have := q_le c; omega)), fun c => ?_⟩
    have c2 := q_nle c
    have s1 := nw (tq_addr e1 z1) (by omega)
    have iz := tn_i z1
    refine ⟨vi (by omega) (by omega), ih _ _ a1 a3 (fun j hj => ?_) (fun i hi => ?_) (by omega) (by omega)⟩
    · show (if j = 0 then _ else t.2.2.1 j) = _
      rw [if_neg hj]
      exact a4 j hj
    · show vp_updL (t.2.2.1 0) (Int32.toNatClampNeg z1) 0 i = 0
      rw [iz]
      by_cases e : i = z1.toInt.toNat
      · rw [e, ul_at]
      · rw [ul_ne e]
        exact a5 i (by omega)
theorem rw_zero {f : Nat → Int64} (h : ∀ i : Nat, i < 6896 → f i = 0) : rw_ok 0 0 0 f := by
  have z : (0 : Int64).toInt = 0 := rfl
  have hc : ∀ c j, c < 40 → j ≤ 4 → c_f f c j = 0 := fun c j h1 h2 => by
    unfold c_f
    rw [h _ (by omega)]
    rfl
  refine ⟨by rw [h 0 (by decide)]; rfl, by rw [h 1 (by decide)]; rfl, by rw [h 3 (by decide)]; rfl, Or.inl (by omega), by rw [h 2 (by decide)]; decide, by omega, fun d hd => by omega, fun c hcc => ?_⟩
  unfold rw_c
  rw [hc c 0 hcc (by omega), hc c 1 hcc (by omega), hc c 2 hcc (by omega), hc c 3 hcc (by omega), hc c 4 hcc (by omega)]
  exact ⟨by omega, fun _ => by omega, fun g => by omega⟩
theorem wq_X7_tell {post : Int32 → Md → Prop} {s0 : Md} {N R W D : Int} (h : mb N R W D s0) (hs : R ≤ 0 ∨ 0 < D) (k : ∀ (r : Int32) (u : Md) (R4 W4 D4 : Int), mb 0 R4 W4 D4 u → R4 ≤ 0 ∨ 0 < D4 → post r u) : wp_X7_tell post s0 := by
  unfold wp_X7_tell
  have e0 : (0 : Int32).toInt = 0 := rfl
  refine wq_X7_putsAside h hs (fun u hu ju xu => ?_)
  obtain ⟨nf, hf⟩ := fu_e 7000
  refine ⟨nf, wq_X7_tell_L6 (s := u) (fun t z b1 b3 b4 b5 => ?_) nf u 0 rfl rfl (fun _ _ => rfl) (fun i hi => by omega) (by omega) (by omega)⟩
  have ht : mb N 0 0 0 t := mb_nowD hu (by rw [b1]) (by rw [b1]) b4 (by rw [b3]) (rw_zero b5)
  refine wq_X7_readsBoard ht (fun r5 v R4 W4 D4 hv hd => ⟨fun c => ?_, fun c => ?_⟩)
  · have c2 := q_neq c
    obtain ⟨a0, a1, a2, a3, a4, a5, a6, a7⟩ := id hv
    have hm : mb 0 R4 W4 D4 ((va_up (va_up v.1 0 0) 5 0), v.2.1, v.2.2.1, v.2.2.2) := ⟨e0, by show 0 ≤ (0 : Int32).toInt ∧ (0 : Int32).toInt ≤ 10; omega, by omega, a3, a4, fun kk hk => absurd (show (kk : Int) < 0 from hk) (by omega), a6, a7⟩
    exact wq_X7_drums hm (fun r8 _ => k _ _ _ _ _ hm (Or.inr (by omega)))
  · have hm : mb 0 R4 W4 D4 ((va_up v.1 5 0), v.2.1, v.2.2.1, v.2.2.2) := mb_N hv e0 (by omega) rfl rfl rfl
    exact wq_X7_takesBack hm (fun w R5 W5 D5 hw sw jw => k _ _ _ _ _ hw sw)

theorem ln_5 : ln 5 = 3 := rfl
theorem ln_6 : ln 6 = 4 := rfl
theorem ln_7 : ln 7 = 6 := rfl
theorem ln_8 : ln 8 = 4 := rfl
theorem ln_9 : ln 9 = 4 := rfl
theorem ln_10 : ln 10 = 6 := rfl
theorem ln_11 : ln 11 = 5 := rfl
theorem wq_X7_goesTimes_1 {post : Int32 → Md → Prop} {s0 : Md} {x1 : Int32} {N R W D : Int} (h : mb N R W D s0) (hD : 0 < D) (h6 : 0 ≤ (s0.1 6).toInt ∧ (s0.1 6).toInt + 5 ≤ N) (h14 : (s0.1 14).toInt = 3) (k : ∀ (r : Int32) (u : Md), mb N R W D u → ie [1, 2, 6, 7, 8, 9, 10, 11, 12, 13, 14] u.1 s0.1 → (r.toInt = 0 ∨ r.toInt = 1) → (s0.1 6).toInt ≤ (u.1 6).toInt ∧ (u.1 6).toInt ≤ N → (r.toInt = 0 ∨ (u.1 14).toInt = (s0.1 14).toInt) → post r u) : wp_X7_goesTimes_1 post s0 x1 := by
  unfold wp_X7_goesTimes_1
  have e0 : (0 : Int32).toInt = 0 := rfl
  have e3 : (3 : Int32).toInt = 3 := rfl
  have e5 : (5 : Int32).toInt = 5 := rfl
  have e40 : (40 : Int32).toInt = 40 := rfl
  have pn := h.2.2.1
  have s6 := nw (tq_addr e5 (s0.1 6)) (by omega)
  have t6 : (((va_up s0.1 6 ((s0.1 6) + 5)), s0.2.1, s0.2.2.1, s0.2.2.2) : Md).1 6 = s0.1 6 + 5 := rfl
  refine wq_X7_readsNumber (N := N) (R := R) (W := W) (D := D) (mb_i h rfl rfl rfl) (by rw [t6]; omega) (fun r1 u2 h2 j2 b2 s2 n2 x2 => ?_)
  rw [t6] at s2
  have i2 : ie [1, 2, 6, 7, 8, 9, 10, 11, 12, 13, 14] u2.1 s0.1 := ie_tr j2 (by decide) (ie_up (ie_refl _ _) (by decide))
  refine ⟨fun c1 => ?_, fun c1 => k _ _ h2 i2 (Or.inl e0) (by omega) (Or.inl e0)⟩
  refine wq_X7_nextByte h2 (by omega) (fun r4 u5 h5 j5 b5 d5 x5 y5 => ?_)
  have i5 : ie [1, 2, 6, 7, 8, 9, 10, 11, 12, 13, 14] u5.1 s0.1 := ie_tr j5 (by decide) i2
  refine ⟨fun c4 => ?_, fun c4 => ⟨fun c5 => ?_, fun c5 => ?_⟩⟩
  · refine wq_X7_mustByte h5 (by omega) (by omega) (fun r7 u8 h8 j8 b8 d8 x8 y8 => ⟨fun c7 => ?_, fun c7 => k _ _ h8 (ie_tr j8 (by decide) i5) (Or.inl e0) (by omega) (Or.inl e0)⟩)
    have z := y8 y5.2.1 (fun e => c4 (y5.1.trans e))
    exact absurd (q_neq c7) (by omega)
  · exfalso
    have a := ie_i j5 14 (by decide)
    have b := ie_i j2 14 (by decide)
    have b' : (u2.1 14).toInt = (s0.1 14).toInt := b
    exact (q_neq c5) (by omega)
  · exact wq_X7_fails h5 (fun r v hv jv a b => ⟨nb_b (by omega), k _ _ hv (ie_tr jv (by decide) i5) (by omega) (by have := ie_i jv 6 (by decide); omega) (Or.inl (by omega))⟩)
theorem wq_X7_goesOne_1 {post : Int32 → Md → Prop} {s0 : Md} {x1 : Int32} {N R W D : Int} (h102997 : mb (N) (R) (W) (D) s0) (h102998 : 0 < D) (h102999 : 0 ≤ (s0.1 6).toInt ∧ (s0.1 6).toInt ≤ N) (h103000 : (s0.1 14).toInt = 3) (k : ∀ (r : Int32) (u : Md), mb (N) (R) (W) (D) u → ie [1, 2, 6, 7, 8, 9, 10, 11, 12, 13, 14] u.1 s0.1 → (r).toInt = 0 ∨ (r).toInt = 1 → (s0.1 6).toInt ≤ (u.1 6).toInt ∧ (u.1 6).toInt ≤ N → (r).toInt = 0 ∨ (u.1 14).toInt = (s0.1 14).toInt → post r u) : wp_X7_goesOne_1 post s0 x1 := by
  unfold wp_X7_goesOne_1
  have := h102997.1
  have := h102997.2.1
  have := h102997.2.2.1
  have := h102997.2.2.2.1
  have p103001 : 0 ≤ (s0.1 6).toInt ∧ (s0.1 6).toInt ≤ N := by omega
  have p103002 : 1 ≤ ln 5 ∧ ln 5 ≤ 9 := by first | assumption | decide
  refine wq_X7_isWord h102997 p103001 p103002 (fun r_1 u_2 q103003 q103004 q103005 q103006 q103007 q103008 q103009 => ?_)
  have := q103003.1
  have := q103003.2.1
  have := ln_5
  refine ⟨fun c103010 => ?_, fun c103011 => ?_⟩
  · replace c103010 := q_eq c103010
    rw [li_0] at c103010
    have p103012 : 0 ≤ (u_2.1 6).toInt ∧ (u_2.1 6).toInt ≤ N := by omega
    have p103013 : 1 ≤ ln 7 ∧ ln 7 ≤ 9 := by first | assumption | decide
    refine wq_X7_isWord q103003 p103012 p103013 (fun r_4 u_5 q103014 q103015 q103016 q103017 q103018 q103019 q103020 => ?_)
    have := q103014.1
    have := q103014.2.1
    have := ln_7
    refine ⟨fun c103021 => ?_, fun c103022 => ?_⟩
    · replace c103021 := q_eq c103021
      rw [li_0] at c103021
      have p103023 : 0 ≤ (u_5.1 6).toInt ∧ (u_5.1 6).toInt ≤ N := by omega
      have p103024 : 1 ≤ ln 8 ∧ ln 8 ≤ 9 := by first | assumption | decide
      refine wq_X7_isWord q103014 p103023 p103024 (fun r_7 u_8 q103025 q103026 q103027 q103028 q103029 q103030 q103031 => ?_)
      have := q103025.1
      have := q103025.2.1
      have := ln_8
      refine ⟨fun c103032 => ?_, fun c103033 => ?_⟩
      · replace c103032 := q_eq c103032
        rw [li_0] at c103032
        have p103034 : 0 ≤ (u_8.1 6).toInt ∧ (u_8.1 6).toInt ≤ N := by omega
        have p103035 : 1 ≤ ln 9 ∧ ln 9 ≤ 9 := by first | assumption | decide
        refine wq_X7_isWord q103025 p103034 p103035 (fun r_10 u_11 q103036 q103037 q103038 q103039 q103040 q103041 q103042 => ?_)
        have := q103036.1
        have := q103036.2.1
        have := ln_9
        refine ⟨fun c103043 => ?_, fun c103044 => ?_⟩
        · replace c103043 := q_eq c103043
          rw [li_0] at c103043
          have p103045 : 0 ≤ (u_11.1 6).toInt ∧ (u_11.1 6).toInt ≤ N := by omega
          have p103046 : 1 ≤ ln 10 ∧ ln 10 ≤ 9 := by first | assumption | decide
          refine wq_X7_isWord q103036 p103045 p103046 (fun r_13 u_14 q103047 q103048 q103049 q103050 q103051 q103052 q103053 => ?_)
          have := q103047.1
          have := q103047.2.1
          have := ln_10
          refine ⟨fun c103054 => ?_, fun c103055 => ?_⟩
          · replace c103054 := q_eq c103054
            rw [li_0] at c103054
            have p103056 : 0 ≤ (u_14.1 6).toInt ∧ (u_14.1 6).toInt ≤ N := by omega
            have p103057 : 1 ≤ ln 6 ∧ ln 6 ≤ 9 := by first | assumption | decide
            refine wq_X7_isWord q103047 p103056 p103057 (fun r_16 u_17 q103058 q103059 q103060 q103061 q103062 q103063 q103064 => ?_)
            have := q103058.1
            have := q103058.2.1
            have := ln_6
            refine ⟨fun c103065 => ?_, fun c103066 => ?_⟩
            · replace c103065 := q_eq c103065
              rw [li_0] at c103065
              have p103067 : 0 ≤ (u_17.1 6).toInt ∧ (u_17.1 6).toInt ≤ N := by omega
              have p103068 : 1 ≤ ln 11 ∧ ln 11 ≤ 9 := by first | assumption | decide
              refine wq_X7_isWord q103058 p103067 p103068 (fun r_19 u_20 q103069 q103070 q103071 q103072 q103073 q103074 q103075 => ?_)
              have := q103069.1
              have := q103069.2.1
              have := ln_11
              refine ⟨fun c103076 => ?_, fun c103077 => ?_⟩
              · replace c103076 := q_eq c103076
                rw [li_0] at c103076
                refine wq_X7_fails q103069 (fun r_22 u_23 q103078 q103079 q103080 q103081 => ?_)
                have := q103078.1
                have := q103078.2.1
                refine ⟨(nb_b (by omega)), ?_⟩
                have p103082 : ie [1, 2, 6, 7, 8, 9, 10, 11, 12, 13, 14] u_23.1 s0.1 := (ie_tr q103079 (by decide) (ie_tr q103070 (by decide) (ie_tr q103059 (by decide) (ie_tr q103048 (by decide) (ie_tr q103037 (by decide) (ie_tr q103026 (by decide) (ie_tr q103015 (by decide) (ie_tr q103004 (by decide) (ie_refl _ _)))))))))
                have p103083 : (r_22).toInt = 0 ∨ (r_22).toInt = 1 := by omega
                have : (u_23.1 6).toInt = (u_20.1 6).toInt := ie_i q103079 6 (by decide)
                have p103084 : (s0.1 6).toInt ≤ (u_23.1 6).toInt ∧ (u_23.1 6).toInt ≤ N := by omega
                have : (u_23.1 14).toInt = (u_20.1 14).toInt := ie_i q103079 14 (by decide)
                have : (u_20.1 14).toInt = (u_17.1 14).toInt := ie_i q103070 14 (by decide)
                have : (u_17.1 14).toInt = (u_14.1 14).toInt := ie_i q103059 14 (by decide)
                have : (u_14.1 14).toInt = (u_11.1 14).toInt := ie_i q103048 14 (by decide)
                have : (u_11.1 14).toInt = (u_8.1 14).toInt := ie_i q103037 14 (by decide)
                have : (u_8.1 14).toInt = (u_5.1 14).toInt := ie_i q103026 14 (by decide)
                have : (u_5.1 14).toInt = (u_2.1 14).toInt := ie_i q103015 14 (by decide)
                have : (u_2.1 14).toInt = (s0.1 14).toInt := ie_i q103004 14 (by decide)
                have p103085 : (r_22).toInt = 0 ∨ (u_23.1 14).toInt = (s0.1 14).toInt := by omega
                exact k _ _ q103078 p103082 p103083 p103084 p103085
              · replace c103077 := q_neq c103077
                rw [li_0] at c103077
                have p103086 : 0 < D := by omega
                have p103087 : 0 ≤ (u_20.1 6).toInt ∧ (u_20.1 6).toInt + 5 ≤ N := by omega
                have : (u_20.1 14).toInt = (u_17.1 14).toInt := ie_i q103070 14 (by decide)
                have : (u_17.1 14).toInt = (u_14.1 14).toInt := ie_i q103059 14 (by decide)
                have : (u_14.1 14).toInt = (u_11.1 14).toInt := ie_i q103048 14 (by decide)
                have : (u_11.1 14).toInt = (u_8.1 14).toInt := ie_i q103037 14 (by decide)
                have : (u_8.1 14).toInt = (u_5.1 14).toInt := ie_i q103026 14 (by decide)
                have : (u_5.1 14).toInt = (u_2.1 14).toInt := ie_i q103015 14 (by decide)
                have : (u_2.1 14).toInt = (s0.1 14).toInt := ie_i q103004 14 (by decide)
                have p103088 : (u_20.1 14).toInt = 3 := by omega
                refine wq_X7_goesTimes_1 q103069 p103086 p103087 p103088 (fun r_25 u_26 q103089 q103090 q103091 q103092 q103093 => ?_)
                have := q103089.1
                have := q103089.2.1
                refine ⟨(nb_b (by omega)), ?_⟩
                have p103094 : ie [1, 2, 6, 7, 8, 9, 10, 11, 12, 13, 14] u_26.1 s0.1 := (ie_tr q103090 (by decide) (ie_tr q103070 (by decide) (ie_tr q103059 (by decide) (ie_tr q103048 (by decide) (ie_tr q103037 (by decide) (ie_tr q103026 (by decide) (ie_tr q103015 (by decide) (ie_tr q103004 (by decide) (ie_refl _ _)))))))))
                have p103095 : (r_25).toInt = 0 ∨ (r_25).toInt = 1 := by omega
                have p103096 : (s0.1 6).toInt ≤ (u_26.1 6).toInt ∧ (u_26.1 6).toInt ≤ N := by omega
                have p103097 : (r_25).toInt = 0 ∨ (u_26.1 14).toInt = (s0.1 14).toInt := by omega
                exact k _ _ q103089 p103094 p103095 p103096 p103097
            · replace c103066 := q_neq c103066
              rw [li_0] at c103066
              have p103098 : 0 < D := by omega
              have p103099 : 0 ≤ (u_17.1 6).toInt ∧ (u_17.1 6).toInt + 4 ≤ N := by omega
              refine wq_X7_goesLose q103058 p103098 p103099 (fun r_28 u_29 q103100 q103101 q103102 q103103 => ?_)
              have := q103100.1
              have := q103100.2.1
              refine ⟨(nb_b (by omega)), ?_⟩
              have p103104 : ie [1, 2, 6, 7, 8, 9, 10, 11, 12, 13, 14] u_29.1 s0.1 := (ie_tr q103101 (by decide) (ie_tr q103059 (by decide) (ie_tr q103048 (by decide) (ie_tr q103037 (by decide) (ie_tr q103026 (by decide) (ie_tr q103015 (by decide) (ie_tr q103004 (by decide) (ie_refl _ _))))))))
              have p103105 : (r_28).toInt = 0 ∨ (r_28).toInt = 1 := by omega
              have p103106 : (s0.1 6).toInt ≤ (u_29.1 6).toInt ∧ (u_29.1 6).toInt ≤ N := by omega
              have : (u_29.1 14).toInt = (u_17.1 14).toInt := ie_i q103101 14 (by decide)
              have : (u_17.1 14).toInt = (u_14.1 14).toInt := ie_i q103059 14 (by decide)
              have : (u_14.1 14).toInt = (u_11.1 14).toInt := ie_i q103048 14 (by decide)
              have : (u_11.1 14).toInt = (u_8.1 14).toInt := ie_i q103037 14 (by decide)
              have : (u_8.1 14).toInt = (u_5.1 14).toInt := ie_i q103026 14 (by decide)
              have : (u_5.1 14).toInt = (u_2.1 14).toInt := ie_i q103015 14 (by decide)
              have : (u_2.1 14).toInt = (s0.1 14).toInt := ie_i q103004 14 (by decide)
              have p103107 : (r_28).toInt = 0 ∨ (u_29.1 14).toInt = (s0.1 14).toInt := by omega
              exact k _ _ q103100 p103104 p103105 p103106 p103107
          · replace c103055 := q_neq c103055
            rw [li_0] at c103055
            have p103108 : 0 < D := by omega
            have p103109 : 0 ≤ (u_14.1 6).toInt ∧ (u_14.1 6).toInt + 6 ≤ N := by omega
            refine wq_X7_goesSettle q103047 p103108 p103109 (fun r_31 u_32 q103110 q103111 q103112 q103113 => ?_)
            have := q103110.1
            have := q103110.2.1
            refine ⟨(nb_b (by omega)), ?_⟩
            have p103114 : ie [1, 2, 6, 7, 8, 9, 10, 11, 12, 13, 14] u_32.1 s0.1 := (ie_tr q103111 (by decide) (ie_tr q103048 (by decide) (ie_tr q103037 (by decide) (ie_tr q103026 (by decide) (ie_tr q103015 (by decide) (ie_tr q103004 (by decide) (ie_refl _ _)))))))
            have p103115 : (r_31).toInt = 0 ∨ (r_31).toInt = 1 := by omega
            have p103116 : (s0.1 6).toInt ≤ (u_32.1 6).toInt ∧ (u_32.1 6).toInt ≤ N := by omega
            have : (u_32.1 14).toInt = (u_14.1 14).toInt := ie_i q103111 14 (by decide)
            have : (u_14.1 14).toInt = (u_11.1 14).toInt := ie_i q103048 14 (by decide)
            have : (u_11.1 14).toInt = (u_8.1 14).toInt := ie_i q103037 14 (by decide)
            have : (u_8.1 14).toInt = (u_5.1 14).toInt := ie_i q103026 14 (by decide)
            have : (u_5.1 14).toInt = (u_2.1 14).toInt := ie_i q103015 14 (by decide)
            have : (u_2.1 14).toInt = (s0.1 14).toInt := ie_i q103004 14 (by decide)
            have p103117 : (r_31).toInt = 0 ∨ (u_32.1 14).toInt = (s0.1 14).toInt := by omega
            exact k _ _ q103110 p103114 p103115 p103116 p103117
        · replace c103044 := q_neq c103044
          rw [li_0] at c103044
          have p103118 : 0 < D := by omega
          have p103119 : 0 ≤ (u_11.1 6).toInt ∧ (u_11.1 6).toInt + 4 ≤ N := by omega
          refine wq_X7_goesWait q103036 p103118 p103119 (fun r_34 u_35 q103120 q103121 q103122 q103123 => ?_)
          have := q103120.1
          have := q103120.2.1
          refine ⟨(nb_b (by omega)), ?_⟩
          have p103124 : ie [1, 2, 6, 7, 8, 9, 10, 11, 12, 13, 14] u_35.1 s0.1 := (ie_tr q103121 (by decide) (ie_tr q103037 (by decide) (ie_tr q103026 (by decide) (ie_tr q103015 (by decide) (ie_tr q103004 (by decide) (ie_refl _ _))))))
          have p103125 : (r_34).toInt = 0 ∨ (r_34).toInt = 1 := by omega
          have p103126 : (s0.1 6).toInt ≤ (u_35.1 6).toInt ∧ (u_35.1 6).toInt ≤ N := by omega
          have : (u_35.1 14).toInt = (u_11.1 14).toInt := ie_i q103121 14 (by decide)
          have : (u_11.1 14).toInt = (u_8.1 14).toInt := ie_i q103037 14 (by decide)
          have : (u_8.1 14).toInt = (u_5.1 14).toInt := ie_i q103026 14 (by decide)
          have : (u_5.1 14).toInt = (u_2.1 14).toInt := ie_i q103015 14 (by decide)
          have : (u_2.1 14).toInt = (s0.1 14).toInt := ie_i q103004 14 (by decide)
          have p103127 : (r_34).toInt = 0 ∨ (u_35.1 14).toInt = (s0.1 14).toInt := by omega
          exact k _ _ q103120 p103124 p103125 p103126 p103127
      · replace c103033 := q_neq c103033
        rw [li_0] at c103033
        have p103128 : 0 < D := by omega
        have p103129 : 0 ≤ (u_8.1 6).toInt ∧ (u_8.1 6).toInt + 4 ≤ N := by omega
        refine wq_X7_goesHome q103025 p103128 p103129 (fun r_37 u_38 q103130 q103131 q103132 q103133 => ?_)
        have := q103130.1
        have := q103130.2.1
        refine ⟨(nb_b (by omega)), ?_⟩
        have p103134 : ie [1, 2, 6, 7, 8, 9, 10, 11, 12, 13, 14] u_38.1 s0.1 := (ie_tr q103131 (by decide) (ie_tr q103026 (by decide) (ie_tr q103015 (by decide) (ie_tr q103004 (by decide) (ie_refl _ _)))))
        have p103135 : (r_37).toInt = 0 ∨ (r_37).toInt = 1 := by omega
        have p103136 : (s0.1 6).toInt ≤ (u_38.1 6).toInt ∧ (u_38.1 6).toInt ≤ N := by omega
        have : (u_38.1 14).toInt = (u_8.1 14).toInt := ie_i q103131 14 (by decide)
        have : (u_8.1 14).toInt = (u_5.1 14).toInt := ie_i q103026 14 (by decide)
        have : (u_5.1 14).toInt = (u_2.1 14).toInt := ie_i q103015 14 (by decide)
        have : (u_2.1 14).toInt = (s0.1 14).toInt := ie_i q103004 14 (by decide)
        have p103137 : (r_37).toInt = 0 ∨ (u_38.1 14).toInt = (s0.1 14).toInt := by omega
        exact k _ _ q103130 p103134 p103135 p103136 p103137
    · replace c103022 := q_neq c103022
      rw [li_0] at c103022
      have p103138 : 0 < D := by omega
      have p103139 : 0 ≤ (u_5.1 6).toInt ∧ (u_5.1 6).toInt + 6 ≤ N := by omega
      refine wq_X7_goesScroll q103014 p103138 p103139 (fun r_40 u_41 q103140 q103141 q103142 q103143 => ?_)
      have := q103140.1
      have := q103140.2.1
      refine ⟨(nb_b (by omega)), ?_⟩
      have p103144 : ie [1, 2, 6, 7, 8, 9, 10, 11, 12, 13, 14] u_41.1 s0.1 := (ie_tr q103141 (by decide) (ie_tr q103015 (by decide) (ie_tr q103004 (by decide) (ie_refl _ _))))
      have p103145 : (r_40).toInt = 0 ∨ (r_40).toInt = 1 := by omega
      have p103146 : (s0.1 6).toInt ≤ (u_41.1 6).toInt ∧ (u_41.1 6).toInt ≤ N := by omega
      have : (u_41.1 14).toInt = (u_5.1 14).toInt := ie_i q103141 14 (by decide)
      have : (u_5.1 14).toInt = (u_2.1 14).toInt := ie_i q103015 14 (by decide)
      have : (u_2.1 14).toInt = (s0.1 14).toInt := ie_i q103004 14 (by decide)
      have p103147 : (r_40).toInt = 0 ∨ (u_41.1 14).toInt = (s0.1 14).toInt := by omega
      exact k _ _ q103140 p103144 p103145 p103146 p103147
  · replace c103011 := q_neq c103011
    rw [li_0] at c103011
    have p103148 : 0 < D := by omega
    have p103149 : 0 ≤ (u_2.1 6).toInt ∧ (u_2.1 6).toInt + 3 ≤ N := by omega
    refine wq_X7_goesRow q103003 p103148 p103149 (fun r_43 u_44 q103150 q103151 q103152 q103153 => ?_)
    have := q103150.1
    have := q103150.2.1
    refine ⟨(nb_b (by omega)), ?_⟩
    have p103154 : ie [1, 2, 6, 7, 8, 9, 10, 11, 12, 13, 14] u_44.1 s0.1 := (ie_tr q103151 (by decide) (ie_tr q103004 (by decide) (ie_refl _ _)))
    have p103155 : (r_43).toInt = 0 ∨ (r_43).toInt = 1 := by omega
    have p103156 : (s0.1 6).toInt ≤ (u_44.1 6).toInt ∧ (u_44.1 6).toInt ≤ N := by omega
    have : (u_44.1 14).toInt = (u_2.1 14).toInt := ie_i q103151 14 (by decide)
    have : (u_2.1 14).toInt = (s0.1 14).toInt := ie_i q103004 14 (by decide)
    have p103157 : (r_43).toInt = 0 ∨ (u_44.1 14).toInt = (s0.1 14).toInt := by omega
    exact k _ _ q103150 p103154 p103155 p103156 p103157
theorem wq_X7_goesAll_1_L10 {post : Int32 → Md → Prop} {e27 : Md → Int32 → Prop} {e29 : Md → Int32 → Prop} {D N R W G : Int} {A : Nat → Int32} (h103158 : 0 < D) (ke27 : ∀ (t0 : Md) (z1 : Int32), mb (N) (R) (W) (D) t0 → ie [1, 2, 6, 7, 8, 9, 10, 11, 12, 13, 14] t0.1 A → G ≤ (t0.1 6).toInt ∧ (t0.1 6).toInt ≤ N → e27 t0 z1) (ke29 : ∀ (t0 : Md) (z1 : Int32), mb (N) (R) (W) (D) t0 → ie [1, 2, 6, 7, 8, 9, 10, 11, 12, 13, 14] t0.1 A → (t0.1 14).toInt = 3 → G ≤ (t0.1 6).toInt ∧ (t0.1 6).toInt ≤ N → e29 t0 z1) : ∀ (n : Nat) (t0 : Md) (z1 : Int32), mb (N) (R) (W) (D) t0 → ie [1, 2, 6, 7, 8, 9, 10, 11, 12, 13, 14] t0.1 A → (t0.1 14).toInt = 3 → 0 ≤ G ∧ G ≤ (t0.1 6).toInt ∧ (t0.1 6).toInt ≤ N → N - (t0.1 6).toInt < (n : Int) → wp_X7_goesAll_1_L10 post e27 e29 n t0 z1 := by
  intro n
  induction n with
  | zero =>
    intro t0 z1 i103159 i103160 i103161 i103162 i103163
    have := i103159.1
    have := i103159.2.1
    have := i103159.2.2.1
    have := i103159.2.2.2.1
    exfalso
    omega
  | succ n ih =>
    intro t0 z1 i103159 i103160 i103161 i103162 i103163
    unfold wp_X7_goesAll_1_L10
    have := i103159.1
    have := i103159.2.1
    have := i103159.2.2.1
    have := i103159.2.2.2.1
    have p103164 : 0 ≤ (t0.1 6).toInt ∧ (t0.1 6).toInt ≤ N := by omega
    have p103165 : ¬ ((59 : Int32)).toInt = -1 := by (have := li_59; omega)
    refine wq_X7_takesByte i103159 p103164 p103165 (fun r_4 u_5 q103166 q103167 q103168 q103169 q103170 q103171 => ?_)
    have := q103166.1
    have := q103166.2.1
    refine ⟨fun c103172 => ?_, fun c103173 => ?_⟩
    · replace c103172 := q_eq c103172
      rw [li_0] at c103172
      have p103174 : ie [1, 2, 6, 7, 8, 9, 10, 11, 12, 13, 14] u_5.1 A := (ie_tr q103167 (by decide) (ie_tr i103160 (by decide) (ie_refl _ _)))
      have : (u_5.1 14).toInt = (t0.1 14).toInt := ie_i q103167 14 (by decide)
      have p103175 : (u_5.1 14).toInt = 3 := by omega
      have p103176 : G ≤ (u_5.1 6).toInt ∧ (u_5.1 6).toInt ≤ N := by omega
      exact ke29 _ _ q103166 p103174 p103175 p103176
    · replace c103173 := q_neq c103173
      rw [li_0] at c103173
      have p103177 : 0 < D := by omega
      have p103178 : 0 ≤ (u_5.1 6).toInt ∧ (u_5.1 6).toInt ≤ N := by omega
      have : (u_5.1 14).toInt = (t0.1 14).toInt := ie_i q103167 14 (by decide)
      have p103179 : (u_5.1 14).toInt = 3 := by omega
      refine wq_X7_goesOne_1 q103166 p103177 p103178 p103179 (fun r_7 u_8 q103180 q103181 q103182 q103183 q103184 => ?_)
      have := q103180.1
      have := q103180.2.1
      refine ⟨fun c103185 => ?_, fun c103186 => ?_⟩
      · replace c103185 := q_neq c103185
        rw [li_0] at c103185
        have p103187 : ie [1, 2, 6, 7, 8, 9, 10, 11, 12, 13, 14] u_8.1 A := (ie_tr q103181 (by decide) (ie_tr q103167 (by decide) (ie_tr i103160 (by decide) (ie_refl _ _))))
        have p103188 : (u_8.1 14).toInt = 3 := by omega
        have p103189 : 0 ≤ G ∧ G ≤ (u_8.1 6).toInt ∧ (u_8.1 6).toInt ≤ N := by omega
        have p103190 : N - (u_8.1 6).toInt < ((n : Nat) : Int) := by (omega)
        exact ih _ _ q103180 p103187 p103188 p103189 p103190
      · replace c103186 := q_eq c103186
        rw [li_0] at c103186
        have p103191 : ie [1, 2, 6, 7, 8, 9, 10, 11, 12, 13, 14] u_8.1 A := (ie_tr q103181 (by decide) (ie_tr q103167 (by decide) (ie_tr i103160 (by decide) (ie_refl _ _))))
        have p103192 : G ≤ (u_8.1 6).toInt ∧ (u_8.1 6).toInt ≤ N := by omega
        exact ke27 _ _ q103180 p103191 p103192
theorem wq_X7_goesAll_1 {post : Int32 → Md → Prop} {s0 : Md} {x1 : Int32} {N R W D : Int} (h103193 : mb (N) (R) (W) (D) s0) (h103194 : 0 < D) (h103195 : 0 ≤ (s0.1 6).toInt ∧ (s0.1 6).toInt ≤ N) (h103196 : (s0.1 14).toInt = 3) (k : ∀ (r : Int32) (u : Md), mb (N) (R) (W) (D) u → ie [1, 2, 6, 7, 8, 9, 10, 11, 12, 13, 14] u.1 s0.1 → (r).toInt = 0 ∨ (r).toInt = 1 → (s0.1 6).toInt ≤ (u.1 6).toInt ∧ (u.1 6).toInt ≤ N → (r).toInt = 0 ∨ (u.1 14).toInt = (s0.1 14).toInt → post r u) : wp_X7_goesAll_1 post s0 x1 := by
  unfold wp_X7_goesAll_1
  have := h103193.1
  have := h103193.2.1
  have := h103193.2.2.1
  have := h103193.2.2.2.1
  have p103197 : 0 < D := by omega
  have p103198 : 0 ≤ (s0.1 6).toInt ∧ (s0.1 6).toInt ≤ N := by omega
  have p103199 : (s0.1 14).toInt = 3 := by omega
  refine wq_X7_goesOne_1 h103193 p103197 p103198 p103199 (fun r_1 u_2 q103200 q103201 q103202 q103203 q103204 => ?_)
  have := q103200.1
  have := q103200.2.1
  refine ⟨fun c103205 => ?_, fun c103206 => ?_⟩
  · replace c103205 := q_neq c103205
    rw [li_0] at c103205
    have p103207 : 0 < D := by omega
    have p103208 : ie [1, 2, 6, 7, 8, 9, 10, 11, 12, 13, 14] u_2.1 u_2.1 := (ie_refl _ _)
    have p103209 : (u_2.1 14).toInt = 3 := by omega
    have p103210 : 0 ≤ ((u_2.1 6).toInt) ∧ ((u_2.1 6).toInt) ≤ (u_2.1 6).toInt ∧ (u_2.1 6).toInt ≤ N := by omega
    obtain ⟨f103211, g103212⟩ := fu_e 500
    have p103213 : N - (u_2.1 6).toInt < (f103211 : Int) := by (omega)
    refine ⟨f103211, wq_X7_goesAll_1_L10 p103207 (fun t0 z1 q103214 q103215 q103216 => ?_) (fun t0 z1 q103217 q103218 q103219 q103220 => ?_) f103211 _ _ q103200 p103208 p103209 p103210 p103213⟩
    · have := q103214.1
      have := q103214.2.1
      have p103221 : ie [1, 2, 6, 7, 8, 9, 10, 11, 12, 13, 14] t0.1 s0.1 := (ie_tr q103215 (by decide) (ie_tr q103201 (by decide) (ie_refl _ _)))
      have p103222 : (0 : Int32).toInt = 0 ∨ (0 : Int32).toInt = 1 := by (have := li_0; omega)
      have p103223 : (s0.1 6).toInt ≤ (t0.1 6).toInt ∧ (t0.1 6).toInt ≤ N := by omega
      have p103224 : (0 : Int32).toInt = 0 ∨ (t0.1 14).toInt = (s0.1 14).toInt := by (have := li_0; omega)
      exact k _ _ q103214 p103221 p103222 p103223 p103224
    · have := q103217.1
      have := q103217.2.1
      have p103225 : ie [1, 2, 6, 7, 8, 9, 10, 11, 12, 13, 14] t0.1 s0.1 := (ie_tr q103218 (by decide) (ie_tr q103201 (by decide) (ie_refl _ _)))
      have p103226 : (1 : Int32).toInt = 0 ∨ (1 : Int32).toInt = 1 := by (have := li_1; omega)
      have p103227 : (s0.1 6).toInt ≤ (t0.1 6).toInt ∧ (t0.1 6).toInt ≤ N := by omega
      have p103228 : (1 : Int32).toInt = 0 ∨ (t0.1 14).toInt = (s0.1 14).toInt := by (have := li_1; omega)
      exact k _ _ q103217 p103225 p103226 p103227 p103228
  · replace c103206 := q_eq c103206
    rw [li_0] at c103206
    have p103229 : ie [1, 2, 6, 7, 8, 9, 10, 11, 12, 13, 14] u_2.1 s0.1 := (ie_tr q103201 (by decide) (ie_refl _ _))
    have p103230 : (0 : Int32).toInt = 0 ∨ (0 : Int32).toInt = 1 := by (have := li_0; omega)
    have p103231 : (s0.1 6).toInt ≤ (u_2.1 6).toInt ∧ (u_2.1 6).toInt ≤ N := by omega
    have p103232 : (0 : Int32).toInt = 0 ∨ (u_2.1 14).toInt = (s0.1 14).toInt := by (have := li_0; omega)
    exact k _ _ q103200 p103229 p103230 p103231 p103232
theorem wq_X7_goesTimes_2_L90 {post : Int32 → Md → Prop} {e141 : Md → Int32 → Int32 → Int32 → Int32 → Int32 → Prop} {D N R W G : Int} {A : Nat → Int32} (h103233 : 0 < D) (ke141 : ∀ (t0 : Md) (z1 : Int32) (z2 : Int32) (z3 : Int32) (z4 : Int32) (z5 : Int32), mb (N) (R) (W) (D) t0 → ie [1, 2, 6, 7, 8, 9, 10, 11, 12, 13, 14] t0.1 A → (t0.1 14).toInt = 3 → (z4).toInt = G → 0 ≤ G ∧ G ≤ (t0.1 6).toInt ∧ (t0.1 6).toInt ≤ N → 0 ≤ (z5).toInt ∧ (z5).toInt ≤ 21 ∧ (z2).toInt ≤ 20 → e141 t0 z1 z2 z3 z4 z5) (k : ∀ (r : Int32) (u : Md), mb (N) (R) (W) (D) u → ie [1, 2, 6, 7, 8, 9, 10, 11, 12, 13, 14] u.1 A → (r).toInt = 0 → G ≤ (u.1 6).toInt ∧ (u.1 6).toInt ≤ N → post r u) : ∀ (n : Nat) (t0 : Md) (z1 : Int32) (z2 : Int32) (z3 : Int32) (z4 : Int32) (z5 : Int32), mb (N) (R) (W) (D) t0 → ie [1, 2, 6, 7, 8, 9, 10, 11, 12, 13, 14] t0.1 A → (t0.1 14).toInt = 3 → (z4).toInt = G → 0 ≤ G ∧ G ≤ (t0.1 6).toInt ∧ (t0.1 6).toInt ≤ N → 0 ≤ (z5).toInt ∧ (z5).toInt ≤ 21 ∧ (z2).toInt ≤ 20 → 21 - (z5).toInt < (n : Int) → wp_X7_goesTimes_2_L90 post e141 n t0 z1 z2 z3 z4 z5 := by
  intro n
  induction n with
  | zero =>
    intro t0 z1 z2 z3 z4 z5 i103234 i103235 i103236 i103237 i103238 i103239 i103240
    have := i103234.1
    have := i103234.2.1
    have := i103234.2.2.1
    have := i103234.2.2.2.1
    exfalso
    omega
  | succ n ih =>
    intro t0 z1 z2 z3 z4 z5 i103234 i103235 i103236 i103237 i103238 i103239 i103240
    unfold wp_X7_goesTimes_2_L90
    have := i103234.1
    have := i103234.2.1
    have := i103234.2.2.1
    have := i103234.2.2.2.1
    refine ⟨fun c103241 => ?_, fun c103242 => ?_⟩
    · replace c103241 := q_eq c103241
      rw [li_0] at c103241
      refine ⟨fun c103243 => ?_, fun c103244 => ?_⟩
      · replace c103243 := q_eq c103243
        rw [li_0] at c103243
        have : (t0.1 5).toInt = (A 5).toInt := ie_i i103235 5 (by decide)
        have p103245 : (t0.1 5).toInt = N := by omega
        have : (t0.1 0).toInt = (A 0).toInt := ie_i i103235 0 (by decide)
        have p103246 : 0 ≤ (t0.1 0).toInt ∧ (t0.1 0).toInt ≤ 10 := by omega
        have p103247 : 0 ≤ N ∧ N ≤ 400 := by omega
        have p103248 : 0 ≤ R ∧ R ≤ 6 ∧ 0 ≤ W ∧ W ≤ 10 ∧ 0 ≤ R * W ∧ R * W ≤ 40 ∧ 0 ≤ D ∧ D ≤ 4 ∧ (D ≤ 0 ∨ 1 ≤ R) ∧ (1 ≤ R ∨ R * W = 0) := by omega
        have B103249 : mb (N) (R) (W) (D) ((va_up t0.1 6 z4), t0.2.1, t0.2.2.1, t0.2.2.2) := ⟨p103245, p103246, p103247, p103248, i103234.2.2.2.2.1, i103234.2.2.2.2.2.1, i103234.2.2.2.2.2.2.1, i103234.2.2.2.2.2.2.2⟩
        have p103250 : 0 < D := by omega
        have p103251 : 0 ≤ (z4).toInt ∧ (z4).toInt ≤ N := by omega
        have p103252 : (t0.1 14).toInt = 3 := by omega
        refine wq_X7_goesAll_1 B103249 p103250 p103251 p103252 (fun r_14 u_15 q103253 q103254 q103255 q103256 q103257 => ?_)
        have := q103253.1
        have := q103253.2.1
        replace q103255 : (r_14).toInt = 0 ∨ (r_14).toInt = 1 := q103255
        replace q103256 : (z4).toInt ≤ (u_15.1 6).toInt ∧ (u_15.1 6).toInt ≤ N := q103256
        replace q103257 : (r_14).toInt = 0 ∨ (u_15.1 14).toInt = (t0.1 14).toInt := q103257
        refine ⟨fun c103258 => ?_, fun c103259 => ?_⟩
        · replace c103258 := q_neq c103258
          rw [li_0] at c103258
          have p103260 : ie [1, 2, 6, 7, 8, 9, 10, 11, 12, 13, 14] u_15.1 A := (ie_tr q103254 (by decide) (ie_up (ie_tr i103235 (by decide) (ie_refl _ _)) (by decide)))
          have p103261 : (u_15.1 14).toInt = 3 := by omega
          have p103262 : (z4).toInt = G := by omega
          have p103263 : 0 ≤ G ∧ G ≤ (u_15.1 6).toInt ∧ (u_15.1 6).toInt ≤ N := by omega
          have e103264 := tq_addr li_1 z5
          try rw [Int.emod_eq_of_lt (show 0 ≤ (z5).toInt + 1 + 2147483648 by omega) (show (z5).toInt + 1 + 2147483648 < 4294967296 by omega)] at e103264
          have p103265 : 0 ≤ (z5 + 1).toInt ∧ (z5 + 1).toInt ≤ 21 ∧ (z2).toInt ≤ 20 := by omega
          have p103266 : 21 - (z5 + 1).toInt < ((n : Nat) : Int) := by (omega)
          exact ih _ _ _ _ _ _ q103253 p103260 p103261 p103262 p103263 p103265 p103266
        · replace c103259 := q_eq c103259
          rw [li_0] at c103259
          have p103267 : ie [1, 2, 6, 7, 8, 9, 10, 11, 12, 13, 14] u_15.1 A := (ie_tr q103254 (by decide) (ie_up (ie_tr i103235 (by decide) (ie_refl _ _)) (by decide)))
          have p103268 : (0 : Int32).toInt = 0 := by (have := li_0; omega)
          have p103269 : G ≤ (u_15.1 6).toInt ∧ (u_15.1 6).toInt ≤ N := by omega
          exact k _ _ q103253 p103267 p103268 p103269
      · replace c103244 := q_neq c103244
        rw [li_0] at c103244
        refine ⟨fun c103270 => ?_, fun c103271 => ?_⟩
        · replace c103270 := q_le c103270
          have : (t0.1 5).toInt = (A 5).toInt := ie_i i103235 5 (by decide)
          have p103272 : (t0.1 5).toInt = N := by omega
          have : (t0.1 0).toInt = (A 0).toInt := ie_i i103235 0 (by decide)
          have p103273 : 0 ≤ (t0.1 0).toInt ∧ (t0.1 0).toInt ≤ 10 := by omega
          have p103274 : 0 ≤ N ∧ N ≤ 400 := by omega
          have p103275 : 0 ≤ R ∧ R ≤ 6 ∧ 0 ≤ W ∧ W ≤ 10 ∧ 0 ≤ R * W ∧ R * W ≤ 40 ∧ 0 ≤ D ∧ D ≤ 4 ∧ (D ≤ 0 ∨ 1 ≤ R) ∧ (1 ≤ R ∨ R * W = 0) := by omega
          have B103276 : mb (N) (R) (W) (D) ((va_up t0.1 6 z4), t0.2.1, t0.2.2.1, t0.2.2.2) := ⟨p103272, p103273, p103274, p103275, i103234.2.2.2.2.1, i103234.2.2.2.2.2.1, i103234.2.2.2.2.2.2.1, i103234.2.2.2.2.2.2.2⟩
          have p103277 : 0 < D := by omega
          have p103278 : 0 ≤ (z4).toInt ∧ (z4).toInt ≤ N := by omega
          have p103279 : (t0.1 14).toInt = 3 := by omega
          refine wq_X7_goesAll_1 B103276 p103277 p103278 p103279 (fun r_18 u_19 q103280 q103281 q103282 q103283 q103284 => ?_)
          have := q103280.1
          have := q103280.2.1
          replace q103282 : (r_18).toInt = 0 ∨ (r_18).toInt = 1 := q103282
          replace q103283 : (z4).toInt ≤ (u_19.1 6).toInt ∧ (u_19.1 6).toInt ≤ N := q103283
          replace q103284 : (r_18).toInt = 0 ∨ (u_19.1 14).toInt = (t0.1 14).toInt := q103284
          refine ⟨fun c103285 => ?_, fun c103286 => ?_⟩
          · replace c103285 := q_neq c103285
            rw [li_0] at c103285
            have p103287 : ie [1, 2, 6, 7, 8, 9, 10, 11, 12, 13, 14] u_19.1 A := (ie_tr q103281 (by decide) (ie_up (ie_tr i103235 (by decide) (ie_refl _ _)) (by decide)))
            have p103288 : (u_19.1 14).toInt = 3 := by omega
            have p103289 : (z4).toInt = G := by omega
            have p103290 : 0 ≤ G ∧ G ≤ (u_19.1 6).toInt ∧ (u_19.1 6).toInt ≤ N := by omega
            have e103291 := tq_addr li_1 z5
            try rw [Int.emod_eq_of_lt (show 0 ≤ (z5).toInt + 1 + 2147483648 by omega) (show (z5).toInt + 1 + 2147483648 < 4294967296 by omega)] at e103291
            have p103292 : 0 ≤ (z5 + 1).toInt ∧ (z5 + 1).toInt ≤ 21 ∧ (z2).toInt ≤ 20 := by omega
            have p103293 : 21 - (z5 + 1).toInt < ((n : Nat) : Int) := by (omega)
            exact ih _ _ _ _ _ _ q103280 p103287 p103288 p103289 p103290 p103292 p103293
          · replace c103286 := q_eq c103286
            rw [li_0] at c103286
            have p103294 : ie [1, 2, 6, 7, 8, 9, 10, 11, 12, 13, 14] u_19.1 A := (ie_tr q103281 (by decide) (ie_up (ie_tr i103235 (by decide) (ie_refl _ _)) (by decide)))
            have p103295 : (0 : Int32).toInt = 0 := by (have := li_0; omega)
            have p103296 : G ≤ (u_19.1 6).toInt ∧ (u_19.1 6).toInt ≤ N := by omega
            exact k _ _ q103280 p103294 p103295 p103296
        · replace c103271 := q_nle c103271
          have : (t0.1 5).toInt = (A 5).toInt := ie_i i103235 5 (by decide)
          have p103297 : (t0.1 5).toInt = N := by omega
          have : (t0.1 0).toInt = (A 0).toInt := ie_i i103235 0 (by decide)
          have p103298 : 0 ≤ (t0.1 0).toInt ∧ (t0.1 0).toInt ≤ 10 := by omega
          have p103299 : 0 ≤ N ∧ N ≤ 400 := by omega
          have p103300 : 0 ≤ R ∧ R ≤ 6 ∧ 0 ≤ W ∧ W ≤ 10 ∧ 0 ≤ R * W ∧ R * W ≤ 40 ∧ 0 ≤ D ∧ D ≤ 4 ∧ (D ≤ 0 ∨ 1 ≤ R) ∧ (1 ≤ R ∨ R * W = 0) := by omega
          have B103301 : mb (N) (R) (W) (D) ((va_up t0.1 6 z4), t0.2.1, t0.2.2.1, t0.2.2.2) := ⟨p103297, p103298, p103299, p103300, i103234.2.2.2.2.1, i103234.2.2.2.2.2.1, i103234.2.2.2.2.2.2.1, i103234.2.2.2.2.2.2.2⟩
          have p103302 : 0 < D := by omega
          have p103303 : 0 ≤ (z4).toInt ∧ (z4).toInt ≤ N := by omega
          have p103304 : (t0.1 14).toInt = 3 := by omega
          refine wq_X7_goesAll_1 B103301 p103302 p103303 p103304 (fun r_21 u_22 q103305 q103306 q103307 q103308 q103309 => ?_)
          have := q103305.1
          have := q103305.2.1
          replace q103307 : (r_21).toInt = 0 ∨ (r_21).toInt = 1 := q103307
          replace q103308 : (z4).toInt ≤ (u_22.1 6).toInt ∧ (u_22.1 6).toInt ≤ N := q103308
          replace q103309 : (r_21).toInt = 0 ∨ (u_22.1 14).toInt = (t0.1 14).toInt := q103309
          refine ⟨fun c103310 => ?_, fun c103311 => ?_⟩
          · replace c103310 := q_neq c103310
            rw [li_0] at c103310
            have p103312 : ie [1, 2, 6, 7, 8, 9, 10, 11, 12, 13, 14] u_22.1 A := (ie_tr q103306 (by decide) (ie_up (ie_tr i103235 (by decide) (ie_refl _ _)) (by decide)))
            have p103313 : (u_22.1 14).toInt = 3 := by omega
            have p103314 : (z4).toInt = G := by omega
            have p103315 : 0 ≤ G ∧ G ≤ (u_22.1 6).toInt ∧ (u_22.1 6).toInt ≤ N := by omega
            have e103316 := tq_addr li_1 z5
            try rw [Int.emod_eq_of_lt (show 0 ≤ (z5).toInt + 1 + 2147483648 by omega) (show (z5).toInt + 1 + 2147483648 < 4294967296 by omega)] at e103316
            have p103317 : 0 ≤ (z5 + 1).toInt ∧ (z5 + 1).toInt ≤ 21 ∧ (z2).toInt ≤ 20 := by omega
            have p103318 : 21 - (z5 + 1).toInt < ((n : Nat) : Int) := by (omega)
            exact ih _ _ _ _ _ _ q103305 p103312 p103313 p103314 p103315 p103317 p103318
          · replace c103311 := q_eq c103311
            rw [li_0] at c103311
            have p103319 : ie [1, 2, 6, 7, 8, 9, 10, 11, 12, 13, 14] u_22.1 A := (ie_tr q103306 (by decide) (ie_up (ie_tr i103235 (by decide) (ie_refl _ _)) (by decide)))
            have p103320 : (0 : Int32).toInt = 0 := by (have := li_0; omega)
            have p103321 : G ≤ (u_22.1 6).toInt ∧ (u_22.1 6).toInt ≤ N := by omega
            exact k _ _ q103305 p103319 p103320 p103321
    · replace c103242 := q_neq c103242
      rw [li_0] at c103242
      refine ⟨fun c103322 => ?_, fun c103323 => ?_⟩
      · replace c103322 := q_le c103322
        have p103324 : ie [1, 2, 6, 7, 8, 9, 10, 11, 12, 13, 14] t0.1 A := (ie_tr i103235 (by decide) (ie_refl _ _))
        have p103325 : (t0.1 14).toInt = 3 := by omega
        have p103326 : (z4).toInt = G := by omega
        have p103327 : 0 ≤ G ∧ G ≤ (t0.1 6).toInt ∧ (t0.1 6).toInt ≤ N := by omega
        have p103328 : 0 ≤ (z5).toInt ∧ (z5).toInt ≤ 21 ∧ (z2).toInt ≤ 20 := by omega
        exact ke141 _ _ _ _ _ _ i103234 p103324 p103325 p103326 p103327 p103328
      · replace c103323 := q_nle c103323
        refine ⟨fun c103329 => ?_, fun c103330 => ?_⟩
        · replace c103329 := q_eq c103329
          rw [li_0] at c103329
          have p103331 : ie [1, 2, 6, 7, 8, 9, 10, 11, 12, 13, 14] t0.1 A := (ie_tr i103235 (by decide) (ie_refl _ _))
          have p103332 : (t0.1 14).toInt = 3 := by omega
          have p103333 : (z4).toInt = G := by omega
          have p103334 : 0 ≤ G ∧ G ≤ (t0.1 6).toInt ∧ (t0.1 6).toInt ≤ N := by omega
          have p103335 : 0 ≤ (z5).toInt ∧ (z5).toInt ≤ 21 ∧ (z2).toInt ≤ 20 := by omega
          exact ke141 _ _ _ _ _ _ i103234 p103331 p103332 p103333 p103334 p103335
        · replace c103330 := q_neq c103330
          rw [li_0] at c103330
          refine ⟨fun c103336 => ?_, fun c103337 => ?_⟩
          · replace c103336 := q_eq c103336
            rw [li_0] at c103336
            have : (t0.1 5).toInt = (A 5).toInt := ie_i i103235 5 (by decide)
            have p103338 : (t0.1 5).toInt = N := by omega
            have : (t0.1 0).toInt = (A 0).toInt := ie_i i103235 0 (by decide)
            have p103339 : 0 ≤ (t0.1 0).toInt ∧ (t0.1 0).toInt ≤ 10 := by omega
            have p103340 : 0 ≤ N ∧ N ≤ 400 := by omega
            have p103341 : 0 ≤ R ∧ R ≤ 6 ∧ 0 ≤ W ∧ W ≤ 10 ∧ 0 ≤ R * W ∧ R * W ≤ 40 ∧ 0 ≤ D ∧ D ≤ 4 ∧ (D ≤ 0 ∨ 1 ≤ R) ∧ (1 ≤ R ∨ R * W = 0) := by omega
            have B103342 : mb (N) (R) (W) (D) ((va_up t0.1 6 z4), t0.2.1, t0.2.2.1, t0.2.2.2) := ⟨p103338, p103339, p103340, p103341, i103234.2.2.2.2.1, i103234.2.2.2.2.2.1, i103234.2.2.2.2.2.2.1, i103234.2.2.2.2.2.2.2⟩
            have p103343 : 0 < D := by omega
            have p103344 : 0 ≤ (z4).toInt ∧ (z4).toInt ≤ N := by omega
            have p103345 : (t0.1 14).toInt = 3 := by omega
            refine wq_X7_goesAll_1 B103342 p103343 p103344 p103345 (fun r_27 u_28 q103346 q103347 q103348 q103349 q103350 => ?_)
            have := q103346.1
            have := q103346.2.1
            replace q103348 : (r_27).toInt = 0 ∨ (r_27).toInt = 1 := q103348
            replace q103349 : (z4).toInt ≤ (u_28.1 6).toInt ∧ (u_28.1 6).toInt ≤ N := q103349
            replace q103350 : (r_27).toInt = 0 ∨ (u_28.1 14).toInt = (t0.1 14).toInt := q103350
            refine ⟨fun c103351 => ?_, fun c103352 => ?_⟩
            · replace c103351 := q_neq c103351
              rw [li_0] at c103351
              have p103353 : ie [1, 2, 6, 7, 8, 9, 10, 11, 12, 13, 14] u_28.1 A := (ie_tr q103347 (by decide) (ie_up (ie_tr i103235 (by decide) (ie_refl _ _)) (by decide)))
              have p103354 : (u_28.1 14).toInt = 3 := by omega
              have p103355 : (z4).toInt = G := by omega
              have p103356 : 0 ≤ G ∧ G ≤ (u_28.1 6).toInt ∧ (u_28.1 6).toInt ≤ N := by omega
              have e103357 := tq_addr li_1 z5
              try rw [Int.emod_eq_of_lt (show 0 ≤ (z5).toInt + 1 + 2147483648 by omega) (show (z5).toInt + 1 + 2147483648 < 4294967296 by omega)] at e103357
              have p103358 : 0 ≤ (z5 + 1).toInt ∧ (z5 + 1).toInt ≤ 21 ∧ (z2).toInt ≤ 20 := by omega
              have p103359 : 21 - (z5 + 1).toInt < ((n : Nat) : Int) := by (omega)
              exact ih _ _ _ _ _ _ q103346 p103353 p103354 p103355 p103356 p103358 p103359
            · replace c103352 := q_eq c103352
              rw [li_0] at c103352
              have p103360 : ie [1, 2, 6, 7, 8, 9, 10, 11, 12, 13, 14] u_28.1 A := (ie_tr q103347 (by decide) (ie_up (ie_tr i103235 (by decide) (ie_refl _ _)) (by decide)))
              have p103361 : (0 : Int32).toInt = 0 := by (have := li_0; omega)
              have p103362 : G ≤ (u_28.1 6).toInt ∧ (u_28.1 6).toInt ≤ N := by omega
              exact k _ _ q103346 p103360 p103361 p103362
          · replace c103337 := q_neq c103337
            rw [li_0] at c103337
            refine ⟨fun c103363 => ?_, fun c103364 => ?_⟩
            · replace c103363 := q_le c103363
              have : (t0.1 5).toInt = (A 5).toInt := ie_i i103235 5 (by decide)
              have p103365 : (t0.1 5).toInt = N := by omega
              have : (t0.1 0).toInt = (A 0).toInt := ie_i i103235 0 (by decide)
              have p103366 : 0 ≤ (t0.1 0).toInt ∧ (t0.1 0).toInt ≤ 10 := by omega
              have p103367 : 0 ≤ N ∧ N ≤ 400 := by omega
              have p103368 : 0 ≤ R ∧ R ≤ 6 ∧ 0 ≤ W ∧ W ≤ 10 ∧ 0 ≤ R * W ∧ R * W ≤ 40 ∧ 0 ≤ D ∧ D ≤ 4 ∧ (D ≤ 0 ∨ 1 ≤ R) ∧ (1 ≤ R ∨ R * W = 0) := by omega
              have B103369 : mb (N) (R) (W) (D) ((va_up t0.1 6 z4), t0.2.1, t0.2.2.1, t0.2.2.2) := ⟨p103365, p103366, p103367, p103368, i103234.2.2.2.2.1, i103234.2.2.2.2.2.1, i103234.2.2.2.2.2.2.1, i103234.2.2.2.2.2.2.2⟩
              have p103370 : 0 < D := by omega
              have p103371 : 0 ≤ (z4).toInt ∧ (z4).toInt ≤ N := by omega
              have p103372 : (t0.1 14).toInt = 3 := by omega
              refine wq_X7_goesAll_1 B103369 p103370 p103371 p103372 (fun r_31 u_32 q103373 q103374 q103375 q103376 q103377 => ?_)
              have := q103373.1
              have := q103373.2.1
              replace q103375 : (r_31).toInt = 0 ∨ (r_31).toInt = 1 := q103375
              replace q103376 : (z4).toInt ≤ (u_32.1 6).toInt ∧ (u_32.1 6).toInt ≤ N := q103376
              replace q103377 : (r_31).toInt = 0 ∨ (u_32.1 14).toInt = (t0.1 14).toInt := q103377
              refine ⟨fun c103378 => ?_, fun c103379 => ?_⟩
              · replace c103378 := q_neq c103378
                rw [li_0] at c103378
                have p103380 : ie [1, 2, 6, 7, 8, 9, 10, 11, 12, 13, 14] u_32.1 A := (ie_tr q103374 (by decide) (ie_up (ie_tr i103235 (by decide) (ie_refl _ _)) (by decide)))
                have p103381 : (u_32.1 14).toInt = 3 := by omega
                have p103382 : (z4).toInt = G := by omega
                have p103383 : 0 ≤ G ∧ G ≤ (u_32.1 6).toInt ∧ (u_32.1 6).toInt ≤ N := by omega
                have e103384 := tq_addr li_1 z5
                try rw [Int.emod_eq_of_lt (show 0 ≤ (z5).toInt + 1 + 2147483648 by omega) (show (z5).toInt + 1 + 2147483648 < 4294967296 by omega)] at e103384
                have p103385 : 0 ≤ (z5 + 1).toInt ∧ (z5 + 1).toInt ≤ 21 ∧ (z2).toInt ≤ 20 := by omega
                have p103386 : 21 - (z5 + 1).toInt < ((n : Nat) : Int) := by (omega)
                exact ih _ _ _ _ _ _ q103373 p103380 p103381 p103382 p103383 p103385 p103386
              · replace c103379 := q_eq c103379
                rw [li_0] at c103379
                have p103387 : ie [1, 2, 6, 7, 8, 9, 10, 11, 12, 13, 14] u_32.1 A := (ie_tr q103374 (by decide) (ie_up (ie_tr i103235 (by decide) (ie_refl _ _)) (by decide)))
                have p103388 : (0 : Int32).toInt = 0 := by (have := li_0; omega)
                have p103389 : G ≤ (u_32.1 6).toInt ∧ (u_32.1 6).toInt ≤ N := by omega
                exact k _ _ q103373 p103387 p103388 p103389
            · replace c103364 := q_nle c103364
              have : (t0.1 5).toInt = (A 5).toInt := ie_i i103235 5 (by decide)
              have p103390 : (t0.1 5).toInt = N := by omega
              have : (t0.1 0).toInt = (A 0).toInt := ie_i i103235 0 (by decide)
              have p103391 : 0 ≤ (t0.1 0).toInt ∧ (t0.1 0).toInt ≤ 10 := by omega
              have p103392 : 0 ≤ N ∧ N ≤ 400 := by omega
              have p103393 : 0 ≤ R ∧ R ≤ 6 ∧ 0 ≤ W ∧ W ≤ 10 ∧ 0 ≤ R * W ∧ R * W ≤ 40 ∧ 0 ≤ D ∧ D ≤ 4 ∧ (D ≤ 0 ∨ 1 ≤ R) ∧ (1 ≤ R ∨ R * W = 0) := by omega
              have B103394 : mb (N) (R) (W) (D) ((va_up t0.1 6 z4), t0.2.1, t0.2.2.1, t0.2.2.2) := ⟨p103390, p103391, p103392, p103393, i103234.2.2.2.2.1, i103234.2.2.2.2.2.1, i103234.2.2.2.2.2.2.1, i103234.2.2.2.2.2.2.2⟩
              have p103395 : 0 < D := by omega
              have p103396 : 0 ≤ (z4).toInt ∧ (z4).toInt ≤ N := by omega
              have p103397 : (t0.1 14).toInt = 3 := by omega
              refine wq_X7_goesAll_1 B103394 p103395 p103396 p103397 (fun r_34 u_35 q103398 q103399 q103400 q103401 q103402 => ?_)
              have := q103398.1
              have := q103398.2.1
              replace q103400 : (r_34).toInt = 0 ∨ (r_34).toInt = 1 := q103400
              replace q103401 : (z4).toInt ≤ (u_35.1 6).toInt ∧ (u_35.1 6).toInt ≤ N := q103401
              replace q103402 : (r_34).toInt = 0 ∨ (u_35.1 14).toInt = (t0.1 14).toInt := q103402
              refine ⟨fun c103403 => ?_, fun c103404 => ?_⟩
              · replace c103403 := q_neq c103403
                rw [li_0] at c103403
                have p103405 : ie [1, 2, 6, 7, 8, 9, 10, 11, 12, 13, 14] u_35.1 A := (ie_tr q103399 (by decide) (ie_up (ie_tr i103235 (by decide) (ie_refl _ _)) (by decide)))
                have p103406 : (u_35.1 14).toInt = 3 := by omega
                have p103407 : (z4).toInt = G := by omega
                have p103408 : 0 ≤ G ∧ G ≤ (u_35.1 6).toInt ∧ (u_35.1 6).toInt ≤ N := by omega
                have e103409 := tq_addr li_1 z5
                try rw [Int.emod_eq_of_lt (show 0 ≤ (z5).toInt + 1 + 2147483648 by omega) (show (z5).toInt + 1 + 2147483648 < 4294967296 by omega)] at e103409
                have p103410 : 0 ≤ (z5 + 1).toInt ∧ (z5 + 1).toInt ≤ 21 ∧ (z2).toInt ≤ 20 := by omega
                have p103411 : 21 - (z5 + 1).toInt < ((n : Nat) : Int) := by (omega)
                exact ih _ _ _ _ _ _ q103398 p103405 p103406 p103407 p103408 p103410 p103411
              · replace c103404 := q_eq c103404
                rw [li_0] at c103404
                have p103412 : ie [1, 2, 6, 7, 8, 9, 10, 11, 12, 13, 14] u_35.1 A := (ie_tr q103399 (by decide) (ie_up (ie_tr i103235 (by decide) (ie_refl _ _)) (by decide)))
                have p103413 : (0 : Int32).toInt = 0 := by (have := li_0; omega)
                have p103414 : G ≤ (u_35.1 6).toInt ∧ (u_35.1 6).toInt ≤ N := by omega
                exact k _ _ q103398 p103412 p103413 p103414
theorem wq_X7_goesTimes_2_L90b {post : Int32 → Md → Prop} {e141 : Md → Int32 → Int32 → Int32 → Int32 → Int32 → Prop} {D N R W G : Int} {A : Nat → Int32} (h103415 : 0 < D) (ke141 : ∀ (t0 : Md) (z1 : Int32) (z2 : Int32) (z3 : Int32) (z4 : Int32) (z5 : Int32), mb (N) (R) (W) (D) t0 → ie [1, 2, 6, 7, 8, 9, 10, 11, 12, 13, 14] t0.1 A → (t0.1 14).toInt = 3 → (z4).toInt = G → 0 ≤ G ∧ G ≤ (t0.1 6).toInt ∧ (t0.1 6).toInt ≤ N → 0 ≤ (z5).toInt ∧ (z5).toInt ≤ 21 ∧ (z2).toInt ≤ 20 → e141 t0 z1 z2 z3 z4 z5) (k : ∀ (r : Int32) (u : Md), mb (N) (R) (W) (D) u → ie [1, 2, 6, 7, 8, 9, 10, 11, 12, 13, 14] u.1 A → (r).toInt = 0 → G ≤ (u.1 6).toInt ∧ (u.1 6).toInt ≤ N → post r u) : ∀ (n : Nat) (t0 : Md) (z1 : Int32) (z2 : Int32) (z3 : Int32) (z4 : Int32) (z5 : Int32), mb (N) (R) (W) (D) t0 → ie [1, 2, 6, 7, 8, 9, 10, 11, 12, 13, 14] t0.1 A → (t0.1 14).toInt = 3 → (z4).toInt = G → 0 ≤ G ∧ G ≤ (t0.1 6).toInt ∧ (t0.1 6).toInt ≤ N → 0 ≤ (z5).toInt ∧ (z5).toInt ≤ 21 ∧ (z2).toInt ≤ 20 → 21 - (z5).toInt < (n : Int) → wp_X7_goesTimes_2_L90b post e141 n t0 z1 z2 z3 z4 z5 := by
  intro n
  induction n with
  | zero =>
    intro t0 z1 z2 z3 z4 z5 i103416 i103417 i103418 i103419 i103420 i103421 i103422
    have := i103416.1
    have := i103416.2.1
    have := i103416.2.2.1
    have := i103416.2.2.2.1
    exfalso
    omega
  | succ n ih =>
    intro t0 z1 z2 z3 z4 z5 i103416 i103417 i103418 i103419 i103420 i103421 i103422
    unfold wp_X7_goesTimes_2_L90b
    have := i103416.1
    have := i103416.2.1
    have := i103416.2.2.1
    have := i103416.2.2.2.1
    refine ⟨fun c103423 => ?_, fun c103424 => ?_⟩
    · replace c103423 := q_eq c103423
      rw [li_0] at c103423
      refine ⟨fun c103425 => ?_, fun c103426 => ?_⟩
      · replace c103425 := q_eq c103425
        rw [li_0] at c103425
        have : (t0.1 5).toInt = (A 5).toInt := ie_i i103417 5 (by decide)
        have p103427 : (t0.1 5).toInt = N := by omega
        have : (t0.1 0).toInt = (A 0).toInt := ie_i i103417 0 (by decide)
        have p103428 : 0 ≤ (t0.1 0).toInt ∧ (t0.1 0).toInt ≤ 10 := by omega
        have p103429 : 0 ≤ N ∧ N ≤ 400 := by omega
        have p103430 : 0 ≤ R ∧ R ≤ 6 ∧ 0 ≤ W ∧ W ≤ 10 ∧ 0 ≤ R * W ∧ R * W ≤ 40 ∧ 0 ≤ D ∧ D ≤ 4 ∧ (D ≤ 0 ∨ 1 ≤ R) ∧ (1 ≤ R ∨ R * W = 0) := by omega
        have B103431 : mb (N) (R) (W) (D) ((va_up t0.1 6 z4), t0.2.1, t0.2.2.1, t0.2.2.2) := ⟨p103427, p103428, p103429, p103430, i103416.2.2.2.2.1, i103416.2.2.2.2.2.1, i103416.2.2.2.2.2.2.1, i103416.2.2.2.2.2.2.2⟩
        have p103432 : 0 < D := by omega
        have p103433 : 0 ≤ (z4).toInt ∧ (z4).toInt ≤ N := by omega
        have p103434 : (t0.1 14).toInt = 3 := by omega
        refine wq_X7_goesAll_1 B103431 p103432 p103433 p103434 (fun r_48 u_49 q103435 q103436 q103437 q103438 q103439 => ?_)
        have := q103435.1
        have := q103435.2.1
        replace q103437 : (r_48).toInt = 0 ∨ (r_48).toInt = 1 := q103437
        replace q103438 : (z4).toInt ≤ (u_49.1 6).toInt ∧ (u_49.1 6).toInt ≤ N := q103438
        replace q103439 : (r_48).toInt = 0 ∨ (u_49.1 14).toInt = (t0.1 14).toInt := q103439
        refine ⟨fun c103440 => ?_, fun c103441 => ?_⟩
        · replace c103440 := q_neq c103440
          rw [li_0] at c103440
          have p103442 : ie [1, 2, 6, 7, 8, 9, 10, 11, 12, 13, 14] u_49.1 A := (ie_tr q103436 (by decide) (ie_up (ie_tr i103417 (by decide) (ie_refl _ _)) (by decide)))
          have p103443 : (u_49.1 14).toInt = 3 := by omega
          have p103444 : (z4).toInt = G := by omega
          have p103445 : 0 ≤ G ∧ G ≤ (u_49.1 6).toInt ∧ (u_49.1 6).toInt ≤ N := by omega
          have e103446 := tq_addr li_1 z5
          try rw [Int.emod_eq_of_lt (show 0 ≤ (z5).toInt + 1 + 2147483648 by omega) (show (z5).toInt + 1 + 2147483648 < 4294967296 by omega)] at e103446
          have p103447 : 0 ≤ (z5 + 1).toInt ∧ (z5 + 1).toInt ≤ 21 ∧ (z2).toInt ≤ 20 := by omega
          have p103448 : 21 - (z5 + 1).toInt < ((n : Nat) : Int) := by (omega)
          exact ih _ _ _ _ _ _ q103435 p103442 p103443 p103444 p103445 p103447 p103448
        · replace c103441 := q_eq c103441
          rw [li_0] at c103441
          have p103449 : ie [1, 2, 6, 7, 8, 9, 10, 11, 12, 13, 14] u_49.1 A := (ie_tr q103436 (by decide) (ie_up (ie_tr i103417 (by decide) (ie_refl _ _)) (by decide)))
          have p103450 : (0 : Int32).toInt = 0 := by (have := li_0; omega)
          have p103451 : G ≤ (u_49.1 6).toInt ∧ (u_49.1 6).toInt ≤ N := by omega
          exact k _ _ q103435 p103449 p103450 p103451
      · replace c103426 := q_neq c103426
        rw [li_0] at c103426
        refine ⟨fun c103452 => ?_, fun c103453 => ?_⟩
        · replace c103452 := q_le c103452
          have : (t0.1 5).toInt = (A 5).toInt := ie_i i103417 5 (by decide)
          have p103454 : (t0.1 5).toInt = N := by omega
          have : (t0.1 0).toInt = (A 0).toInt := ie_i i103417 0 (by decide)
          have p103455 : 0 ≤ (t0.1 0).toInt ∧ (t0.1 0).toInt ≤ 10 := by omega
          have p103456 : 0 ≤ N ∧ N ≤ 400 := by omega
          have p103457 : 0 ≤ R ∧ R ≤ 6 ∧ 0 ≤ W ∧ W ≤ 10 ∧ 0 ≤ R * W ∧ R * W ≤ 40 ∧ 0 ≤ D ∧ D ≤ 4 ∧ (D ≤ 0 ∨ 1 ≤ R) ∧ (1 ≤ R ∨ R * W = 0) := by omega
          have B103458 : mb (N) (R) (W) (D) ((va_up t0.1 6 z4), t0.2.1, t0.2.2.1, t0.2.2.2) := ⟨p103454, p103455, p103456, p103457, i103416.2.2.2.2.1, i103416.2.2.2.2.2.1, i103416.2.2.2.2.2.2.1, i103416.2.2.2.2.2.2.2⟩
          have p103459 : 0 < D := by omega
          have p103460 : 0 ≤ (z4).toInt ∧ (z4).toInt ≤ N := by omega
          have p103461 : (t0.1 14).toInt = 3 := by omega
          refine wq_X7_goesAll_1 B103458 p103459 p103460 p103461 (fun r_52 u_53 q103462 q103463 q103464 q103465 q103466 => ?_)
          have := q103462.1
          have := q103462.2.1
          replace q103464 : (r_52).toInt = 0 ∨ (r_52).toInt = 1 := q103464
          replace q103465 : (z4).toInt ≤ (u_53.1 6).toInt ∧ (u_53.1 6).toInt ≤ N := q103465
          replace q103466 : (r_52).toInt = 0 ∨ (u_53.1 14).toInt = (t0.1 14).toInt := q103466
          refine ⟨fun c103467 => ?_, fun c103468 => ?_⟩
          · replace c103467 := q_neq c103467
            rw [li_0] at c103467
            have p103469 : ie [1, 2, 6, 7, 8, 9, 10, 11, 12, 13, 14] u_53.1 A := (ie_tr q103463 (by decide) (ie_up (ie_tr i103417 (by decide) (ie_refl _ _)) (by decide)))
            have p103470 : (u_53.1 14).toInt = 3 := by omega
            have p103471 : (z4).toInt = G := by omega
            have p103472 : 0 ≤ G ∧ G ≤ (u_53.1 6).toInt ∧ (u_53.1 6).toInt ≤ N := by omega
            have e103473 := tq_addr li_1 z5
            try rw [Int.emod_eq_of_lt (show 0 ≤ (z5).toInt + 1 + 2147483648 by omega) (show (z5).toInt + 1 + 2147483648 < 4294967296 by omega)] at e103473
            have p103474 : 0 ≤ (z5 + 1).toInt ∧ (z5 + 1).toInt ≤ 21 ∧ (z2).toInt ≤ 20 := by omega
            have p103475 : 21 - (z5 + 1).toInt < ((n : Nat) : Int) := by (omega)
            exact ih _ _ _ _ _ _ q103462 p103469 p103470 p103471 p103472 p103474 p103475
          · replace c103468 := q_eq c103468
            rw [li_0] at c103468
            have p103476 : ie [1, 2, 6, 7, 8, 9, 10, 11, 12, 13, 14] u_53.1 A := (ie_tr q103463 (by decide) (ie_up (ie_tr i103417 (by decide) (ie_refl _ _)) (by decide)))
            have p103477 : (0 : Int32).toInt = 0 := by (have := li_0; omega)
            have p103478 : G ≤ (u_53.1 6).toInt ∧ (u_53.1 6).toInt ≤ N := by omega
            exact k _ _ q103462 p103476 p103477 p103478
        · replace c103453 := q_nle c103453
          have : (t0.1 5).toInt = (A 5).toInt := ie_i i103417 5 (by decide)
          have p103479 : (t0.1 5).toInt = N := by omega
          have : (t0.1 0).toInt = (A 0).toInt := ie_i i103417 0 (by decide)
          have p103480 : 0 ≤ (t0.1 0).toInt ∧ (t0.1 0).toInt ≤ 10 := by omega
          have p103481 : 0 ≤ N ∧ N ≤ 400 := by omega
          have p103482 : 0 ≤ R ∧ R ≤ 6 ∧ 0 ≤ W ∧ W ≤ 10 ∧ 0 ≤ R * W ∧ R * W ≤ 40 ∧ 0 ≤ D ∧ D ≤ 4 ∧ (D ≤ 0 ∨ 1 ≤ R) ∧ (1 ≤ R ∨ R * W = 0) := by omega
          have B103483 : mb (N) (R) (W) (D) ((va_up t0.1 6 z4), t0.2.1, t0.2.2.1, t0.2.2.2) := ⟨p103479, p103480, p103481, p103482, i103416.2.2.2.2.1, i103416.2.2.2.2.2.1, i103416.2.2.2.2.2.2.1, i103416.2.2.2.2.2.2.2⟩
          have p103484 : 0 < D := by omega
          have p103485 : 0 ≤ (z4).toInt ∧ (z4).toInt ≤ N := by omega
          have p103486 : (t0.1 14).toInt = 3 := by omega
          refine wq_X7_goesAll_1 B103483 p103484 p103485 p103486 (fun r_55 u_56 q103487 q103488 q103489 q103490 q103491 => ?_)
          have := q103487.1
          have := q103487.2.1
          replace q103489 : (r_55).toInt = 0 ∨ (r_55).toInt = 1 := q103489
          replace q103490 : (z4).toInt ≤ (u_56.1 6).toInt ∧ (u_56.1 6).toInt ≤ N := q103490
          replace q103491 : (r_55).toInt = 0 ∨ (u_56.1 14).toInt = (t0.1 14).toInt := q103491
          refine ⟨fun c103492 => ?_, fun c103493 => ?_⟩
          · replace c103492 := q_neq c103492
            rw [li_0] at c103492
            have p103494 : ie [1, 2, 6, 7, 8, 9, 10, 11, 12, 13, 14] u_56.1 A := (ie_tr q103488 (by decide) (ie_up (ie_tr i103417 (by decide) (ie_refl _ _)) (by decide)))
            have p103495 : (u_56.1 14).toInt = 3 := by omega
            have p103496 : (z4).toInt = G := by omega
            have p103497 : 0 ≤ G ∧ G ≤ (u_56.1 6).toInt ∧ (u_56.1 6).toInt ≤ N := by omega
            have e103498 := tq_addr li_1 z5
            try rw [Int.emod_eq_of_lt (show 0 ≤ (z5).toInt + 1 + 2147483648 by omega) (show (z5).toInt + 1 + 2147483648 < 4294967296 by omega)] at e103498
            have p103499 : 0 ≤ (z5 + 1).toInt ∧ (z5 + 1).toInt ≤ 21 ∧ (z2).toInt ≤ 20 := by omega
            have p103500 : 21 - (z5 + 1).toInt < ((n : Nat) : Int) := by (omega)
            exact ih _ _ _ _ _ _ q103487 p103494 p103495 p103496 p103497 p103499 p103500
          · replace c103493 := q_eq c103493
            rw [li_0] at c103493
            have p103501 : ie [1, 2, 6, 7, 8, 9, 10, 11, 12, 13, 14] u_56.1 A := (ie_tr q103488 (by decide) (ie_up (ie_tr i103417 (by decide) (ie_refl _ _)) (by decide)))
            have p103502 : (0 : Int32).toInt = 0 := by (have := li_0; omega)
            have p103503 : G ≤ (u_56.1 6).toInt ∧ (u_56.1 6).toInt ≤ N := by omega
            exact k _ _ q103487 p103501 p103502 p103503
    · replace c103424 := q_neq c103424
      rw [li_0] at c103424
      refine ⟨fun c103504 => ?_, fun c103505 => ?_⟩
      · replace c103504 := q_le c103504
        have p103506 : ie [1, 2, 6, 7, 8, 9, 10, 11, 12, 13, 14] t0.1 A := (ie_tr i103417 (by decide) (ie_refl _ _))
        have p103507 : (t0.1 14).toInt = 3 := by omega
        have p103508 : (z4).toInt = G := by omega
        have p103509 : 0 ≤ G ∧ G ≤ (t0.1 6).toInt ∧ (t0.1 6).toInt ≤ N := by omega
        have p103510 : 0 ≤ (z5).toInt ∧ (z5).toInt ≤ 21 ∧ (z2).toInt ≤ 20 := by omega
        exact ke141 _ _ _ _ _ _ i103416 p103506 p103507 p103508 p103509 p103510
      · replace c103505 := q_nle c103505
        refine ⟨fun c103511 => ?_, fun c103512 => ?_⟩
        · replace c103511 := q_eq c103511
          rw [li_0] at c103511
          have p103513 : ie [1, 2, 6, 7, 8, 9, 10, 11, 12, 13, 14] t0.1 A := (ie_tr i103417 (by decide) (ie_refl _ _))
          have p103514 : (t0.1 14).toInt = 3 := by omega
          have p103515 : (z4).toInt = G := by omega
          have p103516 : 0 ≤ G ∧ G ≤ (t0.1 6).toInt ∧ (t0.1 6).toInt ≤ N := by omega
          have p103517 : 0 ≤ (z5).toInt ∧ (z5).toInt ≤ 21 ∧ (z2).toInt ≤ 20 := by omega
          exact ke141 _ _ _ _ _ _ i103416 p103513 p103514 p103515 p103516 p103517
        · replace c103512 := q_neq c103512
          rw [li_0] at c103512
          refine ⟨fun c103518 => ?_, fun c103519 => ?_⟩
          · replace c103518 := q_eq c103518
            rw [li_0] at c103518
            have : (t0.1 5).toInt = (A 5).toInt := ie_i i103417 5 (by decide)
            have p103520 : (t0.1 5).toInt = N := by omega
            have : (t0.1 0).toInt = (A 0).toInt := ie_i i103417 0 (by decide)
            have p103521 : 0 ≤ (t0.1 0).toInt ∧ (t0.1 0).toInt ≤ 10 := by omega
            have p103522 : 0 ≤ N ∧ N ≤ 400 := by omega
            have p103523 : 0 ≤ R ∧ R ≤ 6 ∧ 0 ≤ W ∧ W ≤ 10 ∧ 0 ≤ R * W ∧ R * W ≤ 40 ∧ 0 ≤ D ∧ D ≤ 4 ∧ (D ≤ 0 ∨ 1 ≤ R) ∧ (1 ≤ R ∨ R * W = 0) := by omega
            have B103524 : mb (N) (R) (W) (D) ((va_up t0.1 6 z4), t0.2.1, t0.2.2.1, t0.2.2.2) := ⟨p103520, p103521, p103522, p103523, i103416.2.2.2.2.1, i103416.2.2.2.2.2.1, i103416.2.2.2.2.2.2.1, i103416.2.2.2.2.2.2.2⟩
            have p103525 : 0 < D := by omega
            have p103526 : 0 ≤ (z4).toInt ∧ (z4).toInt ≤ N := by omega
            have p103527 : (t0.1 14).toInt = 3 := by omega
            refine wq_X7_goesAll_1 B103524 p103525 p103526 p103527 (fun r_61 u_62 q103528 q103529 q103530 q103531 q103532 => ?_)
            have := q103528.1
            have := q103528.2.1
            replace q103530 : (r_61).toInt = 0 ∨ (r_61).toInt = 1 := q103530
            replace q103531 : (z4).toInt ≤ (u_62.1 6).toInt ∧ (u_62.1 6).toInt ≤ N := q103531
            replace q103532 : (r_61).toInt = 0 ∨ (u_62.1 14).toInt = (t0.1 14).toInt := q103532
            refine ⟨fun c103533 => ?_, fun c103534 => ?_⟩
            · replace c103533 := q_neq c103533
              rw [li_0] at c103533
              have p103535 : ie [1, 2, 6, 7, 8, 9, 10, 11, 12, 13, 14] u_62.1 A := (ie_tr q103529 (by decide) (ie_up (ie_tr i103417 (by decide) (ie_refl _ _)) (by decide)))
              have p103536 : (u_62.1 14).toInt = 3 := by omega
              have p103537 : (z4).toInt = G := by omega
              have p103538 : 0 ≤ G ∧ G ≤ (u_62.1 6).toInt ∧ (u_62.1 6).toInt ≤ N := by omega
              have e103539 := tq_addr li_1 z5
              try rw [Int.emod_eq_of_lt (show 0 ≤ (z5).toInt + 1 + 2147483648 by omega) (show (z5).toInt + 1 + 2147483648 < 4294967296 by omega)] at e103539
              have p103540 : 0 ≤ (z5 + 1).toInt ∧ (z5 + 1).toInt ≤ 21 ∧ (z2).toInt ≤ 20 := by omega
              have p103541 : 21 - (z5 + 1).toInt < ((n : Nat) : Int) := by (omega)
              exact ih _ _ _ _ _ _ q103528 p103535 p103536 p103537 p103538 p103540 p103541
            · replace c103534 := q_eq c103534
              rw [li_0] at c103534
              have p103542 : ie [1, 2, 6, 7, 8, 9, 10, 11, 12, 13, 14] u_62.1 A := (ie_tr q103529 (by decide) (ie_up (ie_tr i103417 (by decide) (ie_refl _ _)) (by decide)))
              have p103543 : (0 : Int32).toInt = 0 := by (have := li_0; omega)
              have p103544 : G ≤ (u_62.1 6).toInt ∧ (u_62.1 6).toInt ≤ N := by omega
              exact k _ _ q103528 p103542 p103543 p103544
          · replace c103519 := q_neq c103519
            rw [li_0] at c103519
            refine ⟨fun c103545 => ?_, fun c103546 => ?_⟩
            · replace c103545 := q_le c103545
              have : (t0.1 5).toInt = (A 5).toInt := ie_i i103417 5 (by decide)
              have p103547 : (t0.1 5).toInt = N := by omega
              have : (t0.1 0).toInt = (A 0).toInt := ie_i i103417 0 (by decide)
              have p103548 : 0 ≤ (t0.1 0).toInt ∧ (t0.1 0).toInt ≤ 10 := by omega
              have p103549 : 0 ≤ N ∧ N ≤ 400 := by omega
              have p103550 : 0 ≤ R ∧ R ≤ 6 ∧ 0 ≤ W ∧ W ≤ 10 ∧ 0 ≤ R * W ∧ R * W ≤ 40 ∧ 0 ≤ D ∧ D ≤ 4 ∧ (D ≤ 0 ∨ 1 ≤ R) ∧ (1 ≤ R ∨ R * W = 0) := by omega
              have B103551 : mb (N) (R) (W) (D) ((va_up t0.1 6 z4), t0.2.1, t0.2.2.1, t0.2.2.2) := ⟨p103547, p103548, p103549, p103550, i103416.2.2.2.2.1, i103416.2.2.2.2.2.1, i103416.2.2.2.2.2.2.1, i103416.2.2.2.2.2.2.2⟩
              have p103552 : 0 < D := by omega
              have p103553 : 0 ≤ (z4).toInt ∧ (z4).toInt ≤ N := by omega
              have p103554 : (t0.1 14).toInt = 3 := by omega
              refine wq_X7_goesAll_1 B103551 p103552 p103553 p103554 (fun r_65 u_66 q103555 q103556 q103557 q103558 q103559 => ?_)
              have := q103555.1
              have := q103555.2.1
              replace q103557 : (r_65).toInt = 0 ∨ (r_65).toInt = 1 := q103557
              replace q103558 : (z4).toInt ≤ (u_66.1 6).toInt ∧ (u_66.1 6).toInt ≤ N := q103558
              replace q103559 : (r_65).toInt = 0 ∨ (u_66.1 14).toInt = (t0.1 14).toInt := q103559
              refine ⟨fun c103560 => ?_, fun c103561 => ?_⟩
              · replace c103560 := q_neq c103560
                rw [li_0] at c103560
                have p103562 : ie [1, 2, 6, 7, 8, 9, 10, 11, 12, 13, 14] u_66.1 A := (ie_tr q103556 (by decide) (ie_up (ie_tr i103417 (by decide) (ie_refl _ _)) (by decide)))
                have p103563 : (u_66.1 14).toInt = 3 := by omega
                have p103564 : (z4).toInt = G := by omega
                have p103565 : 0 ≤ G ∧ G ≤ (u_66.1 6).toInt ∧ (u_66.1 6).toInt ≤ N := by omega
                have e103566 := tq_addr li_1 z5
                try rw [Int.emod_eq_of_lt (show 0 ≤ (z5).toInt + 1 + 2147483648 by omega) (show (z5).toInt + 1 + 2147483648 < 4294967296 by omega)] at e103566
                have p103567 : 0 ≤ (z5 + 1).toInt ∧ (z5 + 1).toInt ≤ 21 ∧ (z2).toInt ≤ 20 := by omega
                have p103568 : 21 - (z5 + 1).toInt < ((n : Nat) : Int) := by (omega)
                exact ih _ _ _ _ _ _ q103555 p103562 p103563 p103564 p103565 p103567 p103568
              · replace c103561 := q_eq c103561
                rw [li_0] at c103561
                have p103569 : ie [1, 2, 6, 7, 8, 9, 10, 11, 12, 13, 14] u_66.1 A := (ie_tr q103556 (by decide) (ie_up (ie_tr i103417 (by decide) (ie_refl _ _)) (by decide)))
                have p103570 : (0 : Int32).toInt = 0 := by (have := li_0; omega)
                have p103571 : G ≤ (u_66.1 6).toInt ∧ (u_66.1 6).toInt ≤ N := by omega
                exact k _ _ q103555 p103569 p103570 p103571
            · replace c103546 := q_nle c103546
              have : (t0.1 5).toInt = (A 5).toInt := ie_i i103417 5 (by decide)
              have p103572 : (t0.1 5).toInt = N := by omega
              have : (t0.1 0).toInt = (A 0).toInt := ie_i i103417 0 (by decide)
              have p103573 : 0 ≤ (t0.1 0).toInt ∧ (t0.1 0).toInt ≤ 10 := by omega
              have p103574 : 0 ≤ N ∧ N ≤ 400 := by omega
              have p103575 : 0 ≤ R ∧ R ≤ 6 ∧ 0 ≤ W ∧ W ≤ 10 ∧ 0 ≤ R * W ∧ R * W ≤ 40 ∧ 0 ≤ D ∧ D ≤ 4 ∧ (D ≤ 0 ∨ 1 ≤ R) ∧ (1 ≤ R ∨ R * W = 0) := by omega
              have B103576 : mb (N) (R) (W) (D) ((va_up t0.1 6 z4), t0.2.1, t0.2.2.1, t0.2.2.2) := ⟨p103572, p103573, p103574, p103575, i103416.2.2.2.2.1, i103416.2.2.2.2.2.1, i103416.2.2.2.2.2.2.1, i103416.2.2.2.2.2.2.2⟩
              have p103577 : 0 < D := by omega
              have p103578 : 0 ≤ (z4).toInt ∧ (z4).toInt ≤ N := by omega
              have p103579 : (t0.1 14).toInt = 3 := by omega
              refine wq_X7_goesAll_1 B103576 p103577 p103578 p103579 (fun r_68 u_69 q103580 q103581 q103582 q103583 q103584 => ?_)
              have := q103580.1
              have := q103580.2.1
              replace q103582 : (r_68).toInt = 0 ∨ (r_68).toInt = 1 := q103582
              replace q103583 : (z4).toInt ≤ (u_69.1 6).toInt ∧ (u_69.1 6).toInt ≤ N := q103583
              replace q103584 : (r_68).toInt = 0 ∨ (u_69.1 14).toInt = (t0.1 14).toInt := q103584
              refine ⟨fun c103585 => ?_, fun c103586 => ?_⟩
              · replace c103585 := q_neq c103585
                rw [li_0] at c103585
                have p103587 : ie [1, 2, 6, 7, 8, 9, 10, 11, 12, 13, 14] u_69.1 A := (ie_tr q103581 (by decide) (ie_up (ie_tr i103417 (by decide) (ie_refl _ _)) (by decide)))
                have p103588 : (u_69.1 14).toInt = 3 := by omega
                have p103589 : (z4).toInt = G := by omega
                have p103590 : 0 ≤ G ∧ G ≤ (u_69.1 6).toInt ∧ (u_69.1 6).toInt ≤ N := by omega
                have e103591 := tq_addr li_1 z5
                try rw [Int.emod_eq_of_lt (show 0 ≤ (z5).toInt + 1 + 2147483648 by omega) (show (z5).toInt + 1 + 2147483648 < 4294967296 by omega)] at e103591
                have p103592 : 0 ≤ (z5 + 1).toInt ∧ (z5 + 1).toInt ≤ 21 ∧ (z2).toInt ≤ 20 := by omega
                have p103593 : 21 - (z5 + 1).toInt < ((n : Nat) : Int) := by (omega)
                exact ih _ _ _ _ _ _ q103580 p103587 p103588 p103589 p103590 p103592 p103593
              · replace c103586 := q_eq c103586
                rw [li_0] at c103586
                have p103594 : ie [1, 2, 6, 7, 8, 9, 10, 11, 12, 13, 14] u_69.1 A := (ie_tr q103581 (by decide) (ie_up (ie_tr i103417 (by decide) (ie_refl _ _)) (by decide)))
                have p103595 : (0 : Int32).toInt = 0 := by (have := li_0; omega)
                have p103596 : G ≤ (u_69.1 6).toInt ∧ (u_69.1 6).toInt ≤ N := by omega
                exact k _ _ q103580 p103594 p103595 p103596
theorem wq_X7_goesTimes_2 {post : Int32 → Md → Prop} {s0 : Md} {x1 : Int32} {N R W D : Int} (h103597 : mb (N) (R) (W) (D) s0) (h103598 : 0 < D) (h103599 : 0 ≤ (s0.1 6).toInt ∧ (s0.1 6).toInt + 5 ≤ N) (h103600 : (s0.1 14).toInt = 2) (k : ∀ (r : Int32) (u : Md), mb (N) (R) (W) (D) u → ie [1, 2, 6, 7, 8, 9, 10, 11, 12, 13, 14] u.1 s0.1 → (r).toInt = 0 ∨ (r).toInt = 1 → (s0.1 6).toInt ≤ (u.1 6).toInt ∧ (u.1 6).toInt ≤ N → (r).toInt = 0 ∨ (u.1 14).toInt = (s0.1 14).toInt → post r u) : wp_X7_goesTimes_2 post s0 x1 := by
  unfold wp_X7_goesTimes_2
  have := h103597.1
  have := h103597.2.1
  have := h103597.2.2.1
  have := h103597.2.2.2.1
  have p103601 : (s0.1 5).toInt = N := by omega
  have p103602 : 0 ≤ (s0.1 0).toInt ∧ (s0.1 0).toInt ≤ 10 := by omega
  have p103603 : 0 ≤ N ∧ N ≤ 400 := by omega
  have p103604 : 0 ≤ R ∧ R ≤ 6 ∧ 0 ≤ W ∧ W ≤ 10 ∧ 0 ≤ R * W ∧ R * W ≤ 40 ∧ 0 ≤ D ∧ D ≤ 4 ∧ (D ≤ 0 ∨ 1 ≤ R) ∧ (1 ≤ R ∨ R * W = 0) := by omega
  have B103605 : mb (N) (R) (W) (D) ((va_up s0.1 6 ((s0.1 6) + 5)), s0.2.1, s0.2.2.1, s0.2.2.2) := ⟨p103601, p103602, p103603, p103604, h103597.2.2.2.2.1, h103597.2.2.2.2.2.1, h103597.2.2.2.2.2.2.1, h103597.2.2.2.2.2.2.2⟩
  have e103606 := tq_addr li_5 (s0.1 6)
  try rw [Int.emod_eq_of_lt (show 0 ≤ (s0.1 6).toInt + 5 + 2147483648 by omega) (show (s0.1 6).toInt + 5 + 2147483648 < 4294967296 by omega)] at e103606
  have p103607 : 0 ≤ ((s0.1 6) + 5).toInt ∧ ((s0.1 6) + 5).toInt ≤ N := by omega
  refine wq_X7_readsNumber B103605 p103607 (fun r_1 u_2 q103608 q103609 q103610 q103611 q103612 q103613 => ?_)
  have := q103608.1
  have := q103608.2.1
  replace q103610 : (r_1).toInt = 0 ∨ (r_1).toInt = 1 := q103610
  replace q103611 : ((s0.1 6) + 5).toInt ≤ (u_2.1 6).toInt ∧ (u_2.1 6).toInt ≤ N := q103611
  replace q103612 : (r_1).toInt = 0 ∨ (((0 : Int32)).toInt ≤ (u_2.1 8).toInt ∧ (u_2.1 8).toInt ≤ ((20 : Int32)).toInt) := q103612
  try simp only [li_0, li_20] at q103612
  refine ⟨fun c103614 => ?_, fun c103615 => ?_⟩
  · replace c103614 := q_neq c103614
    rw [li_0] at c103614
    have p103616 : 0 ≤ (u_2.1 6).toInt ∧ (u_2.1 6).toInt ≤ N := by omega
    refine wq_X7_nextByte q103608 p103616 (fun r_4 u_5 q103617 q103618 q103619 q103620 q103621 q103622 => ?_)
    have := q103617.1
    have := q103617.2.1
    refine ⟨fun c103623 => ?_, fun c103624 => ?_⟩
    · replace c103623 := q_neq c103623
      rw [li_40] at c103623
      have p103625 : 0 ≤ (u_5.1 6).toInt ∧ (u_5.1 6).toInt ≤ N := by omega
      have p103626 : ¬ ((40 : Int32)).toInt = -1 := by (have := li_40; omega)
      refine wq_X7_mustByte q103617 p103625 p103626 (fun r_7 u_8 q103627 q103628 q103629 q103630 q103631 q103632 => ?_)
      have := q103627.1
      have := q103627.2.1
      refine ⟨fun c103633 => ?_, fun c103634 => ?_⟩
      · replace c103633 := q_neq c103633
        rw [li_0] at c103633
        refine wq_X7_isDone q103627 (fun r_10 u_11 q103635 q103636 q103637 => ?_)
        have := q103635.1
        have := q103635.2.1
        have : (u_11.1 6).toInt = (u_8.1 6).toInt := ie_i q103636 6 (by decide)
        have p103638 : 0 < D := by omega
        have : (u_11.1 5).toInt = (u_8.1 5).toInt := ie_i q103636 5 (by decide)
        have : (u_8.1 5).toInt = (u_5.1 5).toInt := ie_i q103628 5 (by decide)
        have : (u_5.1 5).toInt = (u_2.1 5).toInt := ie_i q103618 5 (by decide)
        have : (u_2.1 5).toInt = (s0.1 5).toInt := ie_i q103609 5 (by decide)
        have p103639 : (u_11.1 5).toInt = N := by omega
        have : (u_11.1 0).toInt = (u_8.1 0).toInt := ie_i q103636 0 (by decide)
        have : (u_8.1 0).toInt = (u_5.1 0).toInt := ie_i q103628 0 (by decide)
        have : (u_5.1 0).toInt = (u_2.1 0).toInt := ie_i q103618 0 (by decide)
        have : (u_2.1 0).toInt = (s0.1 0).toInt := ie_i q103609 0 (by decide)
        have p103640 : 0 ≤ (u_11.1 0).toInt ∧ (u_11.1 0).toInt ≤ 10 := by omega
        have p103641 : 0 ≤ N ∧ N ≤ 400 := by omega
        have p103642 : 0 ≤ R ∧ R ≤ 6 ∧ 0 ≤ W ∧ W ≤ 10 ∧ 0 ≤ R * W ∧ R * W ≤ 40 ∧ 0 ≤ D ∧ D ≤ 4 ∧ (D ≤ 0 ∨ 1 ≤ R) ∧ (1 ≤ R ∨ R * W = 0) := by omega
        have B103643 : mb (N) (R) (W) (D) ((va_up u_11.1 14 ((u_11.1 14) + 1)), u_11.2.1, u_11.2.2.1, u_11.2.2.2) := ⟨p103639, p103640, p103641, p103642, q103635.2.2.2.2.1, q103635.2.2.2.2.2.1, q103635.2.2.2.2.2.2.1, q103635.2.2.2.2.2.2.2⟩
        have p103644 : ie [1, 2, 6, 7, 8, 9, 10, 11, 12, 13, 14] (va_up u_11.1 14 ((u_11.1 14) + 1)) (va_up u_11.1 14 ((u_11.1 14) + 1)) := (ie_refl _ _)
        have : (u_11.1 14).toInt = (u_8.1 14).toInt := ie_i q103636 14 (by decide)
        have : (u_8.1 14).toInt = (u_5.1 14).toInt := ie_i q103628 14 (by decide)
        have : (u_5.1 14).toInt = (u_2.1 14).toInt := ie_i q103618 14 (by decide)
        have : (u_2.1 14).toInt = (s0.1 14).toInt := ie_i q103609 14 (by decide)
        have e103645 := tq_addr li_1 (u_11.1 14)
        try rw [Int.emod_eq_of_lt (show 0 ≤ (u_11.1 14).toInt + 1 + 2147483648 by omega) (show (u_11.1 14).toInt + 1 + 2147483648 < 4294967296 by omega)] at e103645
        have p103646 : ((u_11.1 14) + 1).toInt = 3 := by omega
        have p103647 : (u_11.1 6).toInt = ((u_11.1 6).toInt) := by omega
        have p103648 : 0 ≤ ((u_11.1 6).toInt) ∧ ((u_11.1 6).toInt) ≤ (u_11.1 6).toInt ∧ (u_11.1 6).toInt ≤ N := by omega
        have p103649 : 0 ≤ (0 : Int32).toInt ∧ (0 : Int32).toInt ≤ 21 ∧ (u_2.1 8).toInt ≤ 20 := by (have := li_0; omega)
        obtain ⟨f103650, g103651⟩ := fu_e 50
        have p103652 : 21 - (0 : Int32).toInt < (f103650 : Int) := by (have := li_0; omega)
        refine ⟨f103650, wq_X7_goesTimes_2_L90 p103638 (fun t0 z1 z2 z3 z4 z5 q103653 q103654 q103655 q103656 q103657 q103658 => ?_) (fun r103659 u103660 q103661 q103662 q103663 q103664 => ?_) f103650 _ _ _ _ _ _ B103643 p103644 p103646 p103647 p103648 p103649 p103652⟩
        · have := q103653.1
          have := q103653.2.1
          have p103665 : 0 ≤ (t0.1 6).toInt ∧ (t0.1 6).toInt ≤ N := by omega
          have p103666 : ¬ ((41 : Int32)).toInt = -1 := by (have := li_41; omega)
          refine wq_X7_mustByte q103653 p103665 p103666 (fun r_37 u_38 q103667 q103668 q103669 q103670 q103671 q103672 => ?_)
          have := q103667.1
          have := q103667.2.1
          refine ⟨fun c103673 => ?_, fun c103674 => ?_⟩
          · replace c103673 := q_neq c103673
            rw [li_0] at c103673
            have : (u_38.1 5).toInt = (t0.1 5).toInt := ie_i q103668 5 (by decide)
            have : (t0.1 5).toInt = (u_11.1 5).toInt := ie_i q103654 5 (by decide)
            have p103675 : (u_38.1 5).toInt = N := by omega
            have : (u_38.1 0).toInt = (t0.1 0).toInt := ie_i q103668 0 (by decide)
            have : (t0.1 0).toInt = (u_11.1 0).toInt := ie_i q103654 0 (by decide)
            have p103676 : 0 ≤ (u_38.1 0).toInt ∧ (u_38.1 0).toInt ≤ 10 := by omega
            have p103677 : 0 ≤ N ∧ N ≤ 400 := by omega
            have p103678 : 0 ≤ R ∧ R ≤ 6 ∧ 0 ≤ W ∧ W ≤ 10 ∧ 0 ≤ R * W ∧ R * W ≤ 40 ∧ 0 ≤ D ∧ D ≤ 4 ∧ (D ≤ 0 ∨ 1 ≤ R) ∧ (1 ≤ R ∨ R * W = 0) := by omega
            have B103679 : mb (N) (R) (W) (D) ((va_up u_38.1 14 ((u_38.1 14) - 1)), u_38.2.1, u_38.2.2.1, u_38.2.2.2) := ⟨p103675, p103676, p103677, p103678, q103667.2.2.2.2.1, q103667.2.2.2.2.2.1, q103667.2.2.2.2.2.2.1, q103667.2.2.2.2.2.2.2⟩
            have p103680 : ie [1, 2, 6, 7, 8, 9, 10, 11, 12, 13, 14] (va_up u_38.1 14 ((u_38.1 14) - 1)) s0.1 := (ie_up (ie_tr q103668 (by decide) (ie_tr q103654 (by decide) (ie_up (ie_tr q103636 (by decide) (ie_tr q103628 (by decide) (ie_tr q103618 (by decide) (ie_tr q103609 (by decide) (ie_up (ie_refl _ _) (by decide)))))) (by decide)))) (by decide))
            have p103681 : (1 : Int32).toInt = 0 ∨ (1 : Int32).toInt = 1 := by (have := li_1; omega)
            have p103682 : (s0.1 6).toInt ≤ (u_38.1 6).toInt ∧ (u_38.1 6).toInt ≤ N := by omega
            have : (u_38.1 14).toInt = (t0.1 14).toInt := ie_i q103668 14 (by decide)
            have e103683 := tq_subr li_1 (u_38.1 14)
            try rw [Int.emod_eq_of_lt (show 0 ≤ (u_38.1 14).toInt - 1 + 2147483648 by omega) (show (u_38.1 14).toInt - 1 + 2147483648 < 4294967296 by omega)] at e103683
            have p103684 : (1 : Int32).toInt = 0 ∨ ((u_38.1 14) - 1).toInt = (s0.1 14).toInt := by (have := li_1; omega)
            exact k _ _ B103679 p103680 p103681 p103682 p103684
          · replace c103674 := q_eq c103674
            rw [li_0] at c103674
            have p103685 : ie [1, 2, 6, 7, 8, 9, 10, 11, 12, 13, 14] u_38.1 s0.1 := (ie_tr q103668 (by decide) (ie_tr q103654 (by decide) (ie_up (ie_tr q103636 (by decide) (ie_tr q103628 (by decide) (ie_tr q103618 (by decide) (ie_tr q103609 (by decide) (ie_up (ie_refl _ _) (by decide)))))) (by decide))))
            have p103686 : (0 : Int32).toInt = 0 ∨ (0 : Int32).toInt = 1 := by (have := li_0; omega)
            have p103687 : (s0.1 6).toInt ≤ (u_38.1 6).toInt ∧ (u_38.1 6).toInt ≤ N := by omega
            have : (u_38.1 14).toInt = (t0.1 14).toInt := ie_i q103668 14 (by decide)
            have p103688 : (0 : Int32).toInt = 0 ∨ (u_38.1 14).toInt = (s0.1 14).toInt := by (have := li_0; omega)
            exact k _ _ q103667 p103685 p103686 p103687 p103688
        · have := q103661.1
          have := q103661.2.1
          have p103689 : ie [1, 2, 6, 7, 8, 9, 10, 11, 12, 13, 14] u103660.1 s0.1 := (ie_tr q103662 (by decide) (ie_up (ie_tr q103636 (by decide) (ie_tr q103628 (by decide) (ie_tr q103618 (by decide) (ie_tr q103609 (by decide) (ie_up (ie_refl _ _) (by decide)))))) (by decide)))
          have p103690 : (r103659).toInt = 0 ∨ (r103659).toInt = 1 := by omega
          have p103691 : (s0.1 6).toInt ≤ (u103660.1 6).toInt ∧ (u103660.1 6).toInt ≤ N := by omega
          have p103692 : (r103659).toInt = 0 ∨ (u103660.1 14).toInt = (s0.1 14).toInt := by omega
          exact k _ _ q103661 p103689 p103690 p103691 p103692
      · replace c103634 := q_eq c103634
        rw [li_0] at c103634
        have p103693 : ie [1, 2, 6, 7, 8, 9, 10, 11, 12, 13, 14] u_8.1 s0.1 := (ie_tr q103628 (by decide) (ie_tr q103618 (by decide) (ie_tr q103609 (by decide) (ie_up (ie_refl _ _) (by decide)))))
        have p103694 : (0 : Int32).toInt = 0 ∨ (0 : Int32).toInt = 1 := by (have := li_0; omega)
        have p103695 : (s0.1 6).toInt ≤ (u_8.1 6).toInt ∧ (u_8.1 6).toInt ≤ N := by omega
        have : (u_8.1 14).toInt = (u_5.1 14).toInt := ie_i q103628 14 (by decide)
        have : (u_5.1 14).toInt = (u_2.1 14).toInt := ie_i q103618 14 (by decide)
        have : (u_2.1 14).toInt = (s0.1 14).toInt := ie_i q103609 14 (by decide)
        have p103696 : (0 : Int32).toInt = 0 ∨ (u_8.1 14).toInt = (s0.1 14).toInt := by (have := li_0; omega)
        exact k _ _ q103627 p103693 p103694 p103695 p103696
    · replace c103624 := q_eq c103624
      rw [li_40] at c103624
      refine ⟨fun c103697 => ?_, fun c103698 => ?_⟩
      · replace c103697 := q_neq c103697
        rw [li_3] at c103697
        have : (u_5.1 14).toInt = (u_2.1 14).toInt := ie_i q103618 14 (by decide)
        have : (u_2.1 14).toInt = (s0.1 14).toInt := ie_i q103609 14 (by decide)
        have p103699 : 0 ≤ (u_5.1 6).toInt ∧ (u_5.1 6).toInt ≤ N := by omega
        have p103700 : ¬ ((40 : Int32)).toInt = -1 := by (have := li_40; omega)
        refine wq_X7_mustByte q103617 p103699 p103700 (fun r_41 u_42 q103701 q103702 q103703 q103704 q103705 q103706 => ?_)
        have := q103701.1
        have := q103701.2.1
        refine ⟨fun c103707 => ?_, fun c103708 => ?_⟩
        · replace c103707 := q_neq c103707
          rw [li_0] at c103707
          refine wq_X7_isDone q103701 (fun r_44 u_45 q103709 q103710 q103711 => ?_)
          have := q103709.1
          have := q103709.2.1
          have : (u_45.1 6).toInt = (u_42.1 6).toInt := ie_i q103710 6 (by decide)
          have p103712 : 0 < D := by omega
          have : (u_45.1 5).toInt = (u_42.1 5).toInt := ie_i q103710 5 (by decide)
          have : (u_42.1 5).toInt = (u_5.1 5).toInt := ie_i q103702 5 (by decide)
          have : (u_5.1 5).toInt = (u_2.1 5).toInt := ie_i q103618 5 (by decide)
          have : (u_2.1 5).toInt = (s0.1 5).toInt := ie_i q103609 5 (by decide)
          have p103713 : (u_45.1 5).toInt = N := by omega
          have : (u_45.1 0).toInt = (u_42.1 0).toInt := ie_i q103710 0 (by decide)
          have : (u_42.1 0).toInt = (u_5.1 0).toInt := ie_i q103702 0 (by decide)
          have : (u_5.1 0).toInt = (u_2.1 0).toInt := ie_i q103618 0 (by decide)
          have : (u_2.1 0).toInt = (s0.1 0).toInt := ie_i q103609 0 (by decide)
          have p103714 : 0 ≤ (u_45.1 0).toInt ∧ (u_45.1 0).toInt ≤ 10 := by omega
          have p103715 : 0 ≤ N ∧ N ≤ 400 := by omega
          have p103716 : 0 ≤ R ∧ R ≤ 6 ∧ 0 ≤ W ∧ W ≤ 10 ∧ 0 ≤ R * W ∧ R * W ≤ 40 ∧ 0 ≤ D ∧ D ≤ 4 ∧ (D ≤ 0 ∨ 1 ≤ R) ∧ (1 ≤ R ∨ R * W = 0) := by omega
          have B103717 : mb (N) (R) (W) (D) ((va_up u_45.1 14 ((u_45.1 14) + 1)), u_45.2.1, u_45.2.2.1, u_45.2.2.2) := ⟨p103713, p103714, p103715, p103716, q103709.2.2.2.2.1, q103709.2.2.2.2.2.1, q103709.2.2.2.2.2.2.1, q103709.2.2.2.2.2.2.2⟩
          have p103718 : ie [1, 2, 6, 7, 8, 9, 10, 11, 12, 13, 14] (va_up u_45.1 14 ((u_45.1 14) + 1)) (va_up u_45.1 14 ((u_45.1 14) + 1)) := (ie_refl _ _)
          have : (u_45.1 14).toInt = (u_42.1 14).toInt := ie_i q103710 14 (by decide)
          have : (u_42.1 14).toInt = (u_5.1 14).toInt := ie_i q103702 14 (by decide)
          have e103719 := tq_addr li_1 (u_45.1 14)
          try rw [Int.emod_eq_of_lt (show 0 ≤ (u_45.1 14).toInt + 1 + 2147483648 by omega) (show (u_45.1 14).toInt + 1 + 2147483648 < 4294967296 by omega)] at e103719
          have p103720 : ((u_45.1 14) + 1).toInt = 3 := by omega
          have p103721 : (u_45.1 6).toInt = ((u_45.1 6).toInt) := by omega
          have p103722 : 0 ≤ ((u_45.1 6).toInt) ∧ ((u_45.1 6).toInt) ≤ (u_45.1 6).toInt ∧ (u_45.1 6).toInt ≤ N := by omega
          have p103723 : 0 ≤ (0 : Int32).toInt ∧ (0 : Int32).toInt ≤ 21 ∧ (u_2.1 8).toInt ≤ 20 := by (have := li_0; omega)
          obtain ⟨f103724, g103725⟩ := fu_e 50
          have p103726 : 21 - (0 : Int32).toInt < (f103724 : Int) := by (have := li_0; omega)
          refine ⟨f103724, wq_X7_goesTimes_2_L90b p103712 (fun t0 z1 z2 z3 z4 z5 q103727 q103728 q103729 q103730 q103731 q103732 => ?_) (fun r103733 u103734 q103735 q103736 q103737 q103738 => ?_) f103724 _ _ _ _ _ _ B103717 p103718 p103720 p103721 p103722 p103723 p103726⟩
          · have := q103727.1
            have := q103727.2.1
            have p103739 : 0 ≤ (t0.1 6).toInt ∧ (t0.1 6).toInt ≤ N := by omega
            have p103740 : ¬ ((41 : Int32)).toInt = -1 := by (have := li_41; omega)
            refine wq_X7_mustByte q103727 p103739 p103740 (fun r_71 u_72 q103741 q103742 q103743 q103744 q103745 q103746 => ?_)
            have := q103741.1
            have := q103741.2.1
            refine ⟨fun c103747 => ?_, fun c103748 => ?_⟩
            · replace c103747 := q_neq c103747
              rw [li_0] at c103747
              have : (u_72.1 5).toInt = (t0.1 5).toInt := ie_i q103742 5 (by decide)
              have : (t0.1 5).toInt = (u_45.1 5).toInt := ie_i q103728 5 (by decide)
              have p103749 : (u_72.1 5).toInt = N := by omega
              have : (u_72.1 0).toInt = (t0.1 0).toInt := ie_i q103742 0 (by decide)
              have : (t0.1 0).toInt = (u_45.1 0).toInt := ie_i q103728 0 (by decide)
              have p103750 : 0 ≤ (u_72.1 0).toInt ∧ (u_72.1 0).toInt ≤ 10 := by omega
              have p103751 : 0 ≤ N ∧ N ≤ 400 := by omega
              have p103752 : 0 ≤ R ∧ R ≤ 6 ∧ 0 ≤ W ∧ W ≤ 10 ∧ 0 ≤ R * W ∧ R * W ≤ 40 ∧ 0 ≤ D ∧ D ≤ 4 ∧ (D ≤ 0 ∨ 1 ≤ R) ∧ (1 ≤ R ∨ R * W = 0) := by omega
              have B103753 : mb (N) (R) (W) (D) ((va_up u_72.1 14 ((u_72.1 14) - 1)), u_72.2.1, u_72.2.2.1, u_72.2.2.2) := ⟨p103749, p103750, p103751, p103752, q103741.2.2.2.2.1, q103741.2.2.2.2.2.1, q103741.2.2.2.2.2.2.1, q103741.2.2.2.2.2.2.2⟩
              have p103754 : ie [1, 2, 6, 7, 8, 9, 10, 11, 12, 13, 14] (va_up u_72.1 14 ((u_72.1 14) - 1)) s0.1 := (ie_up (ie_tr q103742 (by decide) (ie_tr q103728 (by decide) (ie_up (ie_tr q103710 (by decide) (ie_tr q103702 (by decide) (ie_tr q103618 (by decide) (ie_tr q103609 (by decide) (ie_up (ie_refl _ _) (by decide)))))) (by decide)))) (by decide))
              have p103755 : (1 : Int32).toInt = 0 ∨ (1 : Int32).toInt = 1 := by (have := li_1; omega)
              have p103756 : (s0.1 6).toInt ≤ (u_72.1 6).toInt ∧ (u_72.1 6).toInt ≤ N := by omega
              have : (u_72.1 14).toInt = (t0.1 14).toInt := ie_i q103742 14 (by decide)
              have e103757 := tq_subr li_1 (u_72.1 14)
              try rw [Int.emod_eq_of_lt (show 0 ≤ (u_72.1 14).toInt - 1 + 2147483648 by omega) (show (u_72.1 14).toInt - 1 + 2147483648 < 4294967296 by omega)] at e103757
              have p103758 : (1 : Int32).toInt = 0 ∨ ((u_72.1 14) - 1).toInt = (s0.1 14).toInt := by (have := li_1; omega)
              exact k _ _ B103753 p103754 p103755 p103756 p103758
            · replace c103748 := q_eq c103748
              rw [li_0] at c103748
              have p103759 : ie [1, 2, 6, 7, 8, 9, 10, 11, 12, 13, 14] u_72.1 s0.1 := (ie_tr q103742 (by decide) (ie_tr q103728 (by decide) (ie_up (ie_tr q103710 (by decide) (ie_tr q103702 (by decide) (ie_tr q103618 (by decide) (ie_tr q103609 (by decide) (ie_up (ie_refl _ _) (by decide)))))) (by decide))))
              have p103760 : (0 : Int32).toInt = 0 ∨ (0 : Int32).toInt = 1 := by (have := li_0; omega)
              have p103761 : (s0.1 6).toInt ≤ (u_72.1 6).toInt ∧ (u_72.1 6).toInt ≤ N := by omega
              have : (u_72.1 14).toInt = (t0.1 14).toInt := ie_i q103742 14 (by decide)
              have p103762 : (0 : Int32).toInt = 0 ∨ (u_72.1 14).toInt = (s0.1 14).toInt := by (have := li_0; omega)
              exact k _ _ q103741 p103759 p103760 p103761 p103762
          · have := q103735.1
            have := q103735.2.1
            have p103763 : ie [1, 2, 6, 7, 8, 9, 10, 11, 12, 13, 14] u103734.1 s0.1 := (ie_tr q103736 (by decide) (ie_up (ie_tr q103710 (by decide) (ie_tr q103702 (by decide) (ie_tr q103618 (by decide) (ie_tr q103609 (by decide) (ie_up (ie_refl _ _) (by decide)))))) (by decide)))
            have p103764 : (r103733).toInt = 0 ∨ (r103733).toInt = 1 := by omega
            have p103765 : (s0.1 6).toInt ≤ (u103734.1 6).toInt ∧ (u103734.1 6).toInt ≤ N := by omega
            have p103766 : (r103733).toInt = 0 ∨ (u103734.1 14).toInt = (s0.1 14).toInt := by omega
            exact k _ _ q103735 p103763 p103764 p103765 p103766
        · replace c103708 := q_eq c103708
          rw [li_0] at c103708
          have p103767 : ie [1, 2, 6, 7, 8, 9, 10, 11, 12, 13, 14] u_42.1 s0.1 := (ie_tr q103702 (by decide) (ie_tr q103618 (by decide) (ie_tr q103609 (by decide) (ie_up (ie_refl _ _) (by decide)))))
          have p103768 : (0 : Int32).toInt = 0 ∨ (0 : Int32).toInt = 1 := by (have := li_0; omega)
          have p103769 : (s0.1 6).toInt ≤ (u_42.1 6).toInt ∧ (u_42.1 6).toInt ≤ N := by omega
          have : (u_42.1 14).toInt = (u_5.1 14).toInt := ie_i q103702 14 (by decide)
          have p103770 : (0 : Int32).toInt = 0 ∨ (u_42.1 14).toInt = (s0.1 14).toInt := by (have := li_0; omega)
          exact k _ _ q103701 p103767 p103768 p103769 p103770
      · replace c103698 := q_eq c103698
        rw [li_3] at c103698
        have : (u_5.1 14).toInt = (u_2.1 14).toInt := ie_i q103618 14 (by decide)
        have : (u_2.1 14).toInt = (s0.1 14).toInt := ie_i q103609 14 (by decide)
        refine wq_X7_fails q103617 (fun r_74 u_75 q103771 q103772 q103773 q103774 => ?_)
        have := q103771.1
        have := q103771.2.1
        refine ⟨(nb_b (by omega)), ?_⟩
        have p103775 : ie [1, 2, 6, 7, 8, 9, 10, 11, 12, 13, 14] u_75.1 s0.1 := (ie_tr q103772 (by decide) (ie_tr q103618 (by decide) (ie_tr q103609 (by decide) (ie_up (ie_refl _ _) (by decide)))))
        have p103776 : (r_74).toInt = 0 ∨ (r_74).toInt = 1 := by omega
        have : (u_75.1 6).toInt = (u_5.1 6).toInt := ie_i q103772 6 (by decide)
        have p103777 : (s0.1 6).toInt ≤ (u_75.1 6).toInt ∧ (u_75.1 6).toInt ≤ N := by omega
        have : (u_75.1 14).toInt = (u_5.1 14).toInt := ie_i q103772 14 (by decide)
        have p103778 : (r_74).toInt = 0 ∨ (u_75.1 14).toInt = (s0.1 14).toInt := by omega
        exact k _ _ q103771 p103775 p103776 p103777 p103778
  · replace c103615 := q_eq c103615
    rw [li_0] at c103615
    have p103779 : ie [1, 2, 6, 7, 8, 9, 10, 11, 12, 13, 14] u_2.1 s0.1 := (ie_tr q103609 (by decide) (ie_up (ie_refl _ _) (by decide)))
    have p103780 : (0 : Int32).toInt = 0 ∨ (0 : Int32).toInt = 1 := by (have := li_0; omega)
    have p103781 : (s0.1 6).toInt ≤ (u_2.1 6).toInt ∧ (u_2.1 6).toInt ≤ N := by omega
    have : (u_2.1 14).toInt = (s0.1 14).toInt := ie_i q103609 14 (by decide)
    have p103782 : (0 : Int32).toInt = 0 ∨ (u_2.1 14).toInt = (s0.1 14).toInt := by (have := li_0; omega)
    exact k _ _ q103608 p103779 p103780 p103781 p103782
theorem wq_X7_goesOne_2 {post : Int32 → Md → Prop} {s0 : Md} {x1 : Int32} {N R W D : Int} (h103783 : mb (N) (R) (W) (D) s0) (h103784 : 0 < D) (h103785 : 0 ≤ (s0.1 6).toInt ∧ (s0.1 6).toInt ≤ N) (h103786 : (s0.1 14).toInt = 2) (k : ∀ (r : Int32) (u : Md), mb (N) (R) (W) (D) u → ie [1, 2, 6, 7, 8, 9, 10, 11, 12, 13, 14] u.1 s0.1 → (r).toInt = 0 ∨ (r).toInt = 1 → (s0.1 6).toInt ≤ (u.1 6).toInt ∧ (u.1 6).toInt ≤ N → (r).toInt = 0 ∨ (u.1 14).toInt = (s0.1 14).toInt → post r u) : wp_X7_goesOne_2 post s0 x1 := by
  unfold wp_X7_goesOne_2
  have := h103783.1
  have := h103783.2.1
  have := h103783.2.2.1
  have := h103783.2.2.2.1
  have p103787 : 0 ≤ (s0.1 6).toInt ∧ (s0.1 6).toInt ≤ N := by omega
  have p103788 : 1 ≤ ln 5 ∧ ln 5 ≤ 9 := by first | assumption | decide
  refine wq_X7_isWord h103783 p103787 p103788 (fun r_1 u_2 q103789 q103790 q103791 q103792 q103793 q103794 q103795 => ?_)
  have := q103789.1
  have := q103789.2.1
  have := ln_5
  refine ⟨fun c103796 => ?_, fun c103797 => ?_⟩
  · replace c103796 := q_eq c103796
    rw [li_0] at c103796
    have p103798 : 0 ≤ (u_2.1 6).toInt ∧ (u_2.1 6).toInt ≤ N := by omega
    have p103799 : 1 ≤ ln 7 ∧ ln 7 ≤ 9 := by first | assumption | decide
    refine wq_X7_isWord q103789 p103798 p103799 (fun r_4 u_5 q103800 q103801 q103802 q103803 q103804 q103805 q103806 => ?_)
    have := q103800.1
    have := q103800.2.1
    have := ln_7
    refine ⟨fun c103807 => ?_, fun c103808 => ?_⟩
    · replace c103807 := q_eq c103807
      rw [li_0] at c103807
      have p103809 : 0 ≤ (u_5.1 6).toInt ∧ (u_5.1 6).toInt ≤ N := by omega
      have p103810 : 1 ≤ ln 8 ∧ ln 8 ≤ 9 := by first | assumption | decide
      refine wq_X7_isWord q103800 p103809 p103810 (fun r_7 u_8 q103811 q103812 q103813 q103814 q103815 q103816 q103817 => ?_)
      have := q103811.1
      have := q103811.2.1
      have := ln_8
      refine ⟨fun c103818 => ?_, fun c103819 => ?_⟩
      · replace c103818 := q_eq c103818
        rw [li_0] at c103818
        have p103820 : 0 ≤ (u_8.1 6).toInt ∧ (u_8.1 6).toInt ≤ N := by omega
        have p103821 : 1 ≤ ln 9 ∧ ln 9 ≤ 9 := by first | assumption | decide
        refine wq_X7_isWord q103811 p103820 p103821 (fun r_10 u_11 q103822 q103823 q103824 q103825 q103826 q103827 q103828 => ?_)
        have := q103822.1
        have := q103822.2.1
        have := ln_9
        refine ⟨fun c103829 => ?_, fun c103830 => ?_⟩
        · replace c103829 := q_eq c103829
          rw [li_0] at c103829
          have p103831 : 0 ≤ (u_11.1 6).toInt ∧ (u_11.1 6).toInt ≤ N := by omega
          have p103832 : 1 ≤ ln 10 ∧ ln 10 ≤ 9 := by first | assumption | decide
          refine wq_X7_isWord q103822 p103831 p103832 (fun r_13 u_14 q103833 q103834 q103835 q103836 q103837 q103838 q103839 => ?_)
          have := q103833.1
          have := q103833.2.1
          have := ln_10
          refine ⟨fun c103840 => ?_, fun c103841 => ?_⟩
          · replace c103840 := q_eq c103840
            rw [li_0] at c103840
            have p103842 : 0 ≤ (u_14.1 6).toInt ∧ (u_14.1 6).toInt ≤ N := by omega
            have p103843 : 1 ≤ ln 6 ∧ ln 6 ≤ 9 := by first | assumption | decide
            refine wq_X7_isWord q103833 p103842 p103843 (fun r_16 u_17 q103844 q103845 q103846 q103847 q103848 q103849 q103850 => ?_)
            have := q103844.1
            have := q103844.2.1
            have := ln_6
            refine ⟨fun c103851 => ?_, fun c103852 => ?_⟩
            · replace c103851 := q_eq c103851
              rw [li_0] at c103851
              have p103853 : 0 ≤ (u_17.1 6).toInt ∧ (u_17.1 6).toInt ≤ N := by omega
              have p103854 : 1 ≤ ln 11 ∧ ln 11 ≤ 9 := by first | assumption | decide
              refine wq_X7_isWord q103844 p103853 p103854 (fun r_19 u_20 q103855 q103856 q103857 q103858 q103859 q103860 q103861 => ?_)
              have := q103855.1
              have := q103855.2.1
              have := ln_11
              refine ⟨fun c103862 => ?_, fun c103863 => ?_⟩
              · replace c103862 := q_eq c103862
                rw [li_0] at c103862
                refine wq_X7_fails q103855 (fun r_22 u_23 q103864 q103865 q103866 q103867 => ?_)
                have := q103864.1
                have := q103864.2.1
                refine ⟨(nb_b (by omega)), ?_⟩
                have p103868 : ie [1, 2, 6, 7, 8, 9, 10, 11, 12, 13, 14] u_23.1 s0.1 := (ie_tr q103865 (by decide) (ie_tr q103856 (by decide) (ie_tr q103845 (by decide) (ie_tr q103834 (by decide) (ie_tr q103823 (by decide) (ie_tr q103812 (by decide) (ie_tr q103801 (by decide) (ie_tr q103790 (by decide) (ie_refl _ _)))))))))
                have p103869 : (r_22).toInt = 0 ∨ (r_22).toInt = 1 := by omega
                have : (u_23.1 6).toInt = (u_20.1 6).toInt := ie_i q103865 6 (by decide)
                have p103870 : (s0.1 6).toInt ≤ (u_23.1 6).toInt ∧ (u_23.1 6).toInt ≤ N := by omega
                have : (u_23.1 14).toInt = (u_20.1 14).toInt := ie_i q103865 14 (by decide)
                have : (u_20.1 14).toInt = (u_17.1 14).toInt := ie_i q103856 14 (by decide)
                have : (u_17.1 14).toInt = (u_14.1 14).toInt := ie_i q103845 14 (by decide)
                have : (u_14.1 14).toInt = (u_11.1 14).toInt := ie_i q103834 14 (by decide)
                have : (u_11.1 14).toInt = (u_8.1 14).toInt := ie_i q103823 14 (by decide)
                have : (u_8.1 14).toInt = (u_5.1 14).toInt := ie_i q103812 14 (by decide)
                have : (u_5.1 14).toInt = (u_2.1 14).toInt := ie_i q103801 14 (by decide)
                have : (u_2.1 14).toInt = (s0.1 14).toInt := ie_i q103790 14 (by decide)
                have p103871 : (r_22).toInt = 0 ∨ (u_23.1 14).toInt = (s0.1 14).toInt := by omega
                exact k _ _ q103864 p103868 p103869 p103870 p103871
              · replace c103863 := q_neq c103863
                rw [li_0] at c103863
                have p103872 : 0 < D := by omega
                have p103873 : 0 ≤ (u_20.1 6).toInt ∧ (u_20.1 6).toInt + 5 ≤ N := by omega
                have : (u_20.1 14).toInt = (u_17.1 14).toInt := ie_i q103856 14 (by decide)
                have : (u_17.1 14).toInt = (u_14.1 14).toInt := ie_i q103845 14 (by decide)
                have : (u_14.1 14).toInt = (u_11.1 14).toInt := ie_i q103834 14 (by decide)
                have : (u_11.1 14).toInt = (u_8.1 14).toInt := ie_i q103823 14 (by decide)
                have : (u_8.1 14).toInt = (u_5.1 14).toInt := ie_i q103812 14 (by decide)
                have : (u_5.1 14).toInt = (u_2.1 14).toInt := ie_i q103801 14 (by decide)
                have : (u_2.1 14).toInt = (s0.1 14).toInt := ie_i q103790 14 (by decide)
                have p103874 : (u_20.1 14).toInt = 2 := by omega
                refine wq_X7_goesTimes_2 q103855 p103872 p103873 p103874 (fun r_25 u_26 q103875 q103876 q103877 q103878 q103879 => ?_)
                have := q103875.1
                have := q103875.2.1
                refine ⟨(nb_b (by omega)), ?_⟩
                have p103880 : ie [1, 2, 6, 7, 8, 9, 10, 11, 12, 13, 14] u_26.1 s0.1 := (ie_tr q103876 (by decide) (ie_tr q103856 (by decide) (ie_tr q103845 (by decide) (ie_tr q103834 (by decide) (ie_tr q103823 (by decide) (ie_tr q103812 (by decide) (ie_tr q103801 (by decide) (ie_tr q103790 (by decide) (ie_refl _ _)))))))))
                have p103881 : (r_25).toInt = 0 ∨ (r_25).toInt = 1 := by omega
                have p103882 : (s0.1 6).toInt ≤ (u_26.1 6).toInt ∧ (u_26.1 6).toInt ≤ N := by omega
                have p103883 : (r_25).toInt = 0 ∨ (u_26.1 14).toInt = (s0.1 14).toInt := by omega
                exact k _ _ q103875 p103880 p103881 p103882 p103883
            · replace c103852 := q_neq c103852
              rw [li_0] at c103852
              have p103884 : 0 < D := by omega
              have p103885 : 0 ≤ (u_17.1 6).toInt ∧ (u_17.1 6).toInt + 4 ≤ N := by omega
              refine wq_X7_goesLose q103844 p103884 p103885 (fun r_28 u_29 q103886 q103887 q103888 q103889 => ?_)
              have := q103886.1
              have := q103886.2.1
              refine ⟨(nb_b (by omega)), ?_⟩
              have p103890 : ie [1, 2, 6, 7, 8, 9, 10, 11, 12, 13, 14] u_29.1 s0.1 := (ie_tr q103887 (by decide) (ie_tr q103845 (by decide) (ie_tr q103834 (by decide) (ie_tr q103823 (by decide) (ie_tr q103812 (by decide) (ie_tr q103801 (by decide) (ie_tr q103790 (by decide) (ie_refl _ _))))))))
              have p103891 : (r_28).toInt = 0 ∨ (r_28).toInt = 1 := by omega
              have p103892 : (s0.1 6).toInt ≤ (u_29.1 6).toInt ∧ (u_29.1 6).toInt ≤ N := by omega
              have : (u_29.1 14).toInt = (u_17.1 14).toInt := ie_i q103887 14 (by decide)
              have : (u_17.1 14).toInt = (u_14.1 14).toInt := ie_i q103845 14 (by decide)
              have : (u_14.1 14).toInt = (u_11.1 14).toInt := ie_i q103834 14 (by decide)
              have : (u_11.1 14).toInt = (u_8.1 14).toInt := ie_i q103823 14 (by decide)
              have : (u_8.1 14).toInt = (u_5.1 14).toInt := ie_i q103812 14 (by decide)
              have : (u_5.1 14).toInt = (u_2.1 14).toInt := ie_i q103801 14 (by decide)
              have : (u_2.1 14).toInt = (s0.1 14).toInt := ie_i q103790 14 (by decide)
              have p103893 : (r_28).toInt = 0 ∨ (u_29.1 14).toInt = (s0.1 14).toInt := by omega
              exact k _ _ q103886 p103890 p103891 p103892 p103893
          · replace c103841 := q_neq c103841
            rw [li_0] at c103841
            have p103894 : 0 < D := by omega
            have p103895 : 0 ≤ (u_14.1 6).toInt ∧ (u_14.1 6).toInt + 6 ≤ N := by omega
            refine wq_X7_goesSettle q103833 p103894 p103895 (fun r_31 u_32 q103896 q103897 q103898 q103899 => ?_)
            have := q103896.1
            have := q103896.2.1
            refine ⟨(nb_b (by omega)), ?_⟩
            have p103900 : ie [1, 2, 6, 7, 8, 9, 10, 11, 12, 13, 14] u_32.1 s0.1 := (ie_tr q103897 (by decide) (ie_tr q103834 (by decide) (ie_tr q103823 (by decide) (ie_tr q103812 (by decide) (ie_tr q103801 (by decide) (ie_tr q103790 (by decide) (ie_refl _ _)))))))
            have p103901 : (r_31).toInt = 0 ∨ (r_31).toInt = 1 := by omega
            have p103902 : (s0.1 6).toInt ≤ (u_32.1 6).toInt ∧ (u_32.1 6).toInt ≤ N := by omega
            have : (u_32.1 14).toInt = (u_14.1 14).toInt := ie_i q103897 14 (by decide)
            have : (u_14.1 14).toInt = (u_11.1 14).toInt := ie_i q103834 14 (by decide)
            have : (u_11.1 14).toInt = (u_8.1 14).toInt := ie_i q103823 14 (by decide)
            have : (u_8.1 14).toInt = (u_5.1 14).toInt := ie_i q103812 14 (by decide)
            have : (u_5.1 14).toInt = (u_2.1 14).toInt := ie_i q103801 14 (by decide)
            have : (u_2.1 14).toInt = (s0.1 14).toInt := ie_i q103790 14 (by decide)
            have p103903 : (r_31).toInt = 0 ∨ (u_32.1 14).toInt = (s0.1 14).toInt := by omega
            exact k _ _ q103896 p103900 p103901 p103902 p103903
        · replace c103830 := q_neq c103830
          rw [li_0] at c103830
          have p103904 : 0 < D := by omega
          have p103905 : 0 ≤ (u_11.1 6).toInt ∧ (u_11.1 6).toInt + 4 ≤ N := by omega
          refine wq_X7_goesWait q103822 p103904 p103905 (fun r_34 u_35 q103906 q103907 q103908 q103909 => ?_)
          have := q103906.1
          have := q103906.2.1
          refine ⟨(nb_b (by omega)), ?_⟩
          have p103910 : ie [1, 2, 6, 7, 8, 9, 10, 11, 12, 13, 14] u_35.1 s0.1 := (ie_tr q103907 (by decide) (ie_tr q103823 (by decide) (ie_tr q103812 (by decide) (ie_tr q103801 (by decide) (ie_tr q103790 (by decide) (ie_refl _ _))))))
          have p103911 : (r_34).toInt = 0 ∨ (r_34).toInt = 1 := by omega
          have p103912 : (s0.1 6).toInt ≤ (u_35.1 6).toInt ∧ (u_35.1 6).toInt ≤ N := by omega
          have : (u_35.1 14).toInt = (u_11.1 14).toInt := ie_i q103907 14 (by decide)
          have : (u_11.1 14).toInt = (u_8.1 14).toInt := ie_i q103823 14 (by decide)
          have : (u_8.1 14).toInt = (u_5.1 14).toInt := ie_i q103812 14 (by decide)
          have : (u_5.1 14).toInt = (u_2.1 14).toInt := ie_i q103801 14 (by decide)
          have : (u_2.1 14).toInt = (s0.1 14).toInt := ie_i q103790 14 (by decide)
          have p103913 : (r_34).toInt = 0 ∨ (u_35.1 14).toInt = (s0.1 14).toInt := by omega
          exact k _ _ q103906 p103910 p103911 p103912 p103913
      · replace c103819 := q_neq c103819
        rw [li_0] at c103819
        have p103914 : 0 < D := by omega
        have p103915 : 0 ≤ (u_8.1 6).toInt ∧ (u_8.1 6).toInt + 4 ≤ N := by omega
        refine wq_X7_goesHome q103811 p103914 p103915 (fun r_37 u_38 q103916 q103917 q103918 q103919 => ?_)
        have := q103916.1
        have := q103916.2.1
        refine ⟨(nb_b (by omega)), ?_⟩
        have p103920 : ie [1, 2, 6, 7, 8, 9, 10, 11, 12, 13, 14] u_38.1 s0.1 := (ie_tr q103917 (by decide) (ie_tr q103812 (by decide) (ie_tr q103801 (by decide) (ie_tr q103790 (by decide) (ie_refl _ _)))))
        have p103921 : (r_37).toInt = 0 ∨ (r_37).toInt = 1 := by omega
        have p103922 : (s0.1 6).toInt ≤ (u_38.1 6).toInt ∧ (u_38.1 6).toInt ≤ N := by omega
        have : (u_38.1 14).toInt = (u_8.1 14).toInt := ie_i q103917 14 (by decide)
        have : (u_8.1 14).toInt = (u_5.1 14).toInt := ie_i q103812 14 (by decide)
        have : (u_5.1 14).toInt = (u_2.1 14).toInt := ie_i q103801 14 (by decide)
        have : (u_2.1 14).toInt = (s0.1 14).toInt := ie_i q103790 14 (by decide)
        have p103923 : (r_37).toInt = 0 ∨ (u_38.1 14).toInt = (s0.1 14).toInt := by omega
        exact k _ _ q103916 p103920 p103921 p103922 p103923
    · replace c103808 := q_neq c103808
      rw [li_0] at c103808
      have p103924 : 0 < D := by omega
      have p103925 : 0 ≤ (u_5.1 6).toInt ∧ (u_5.1 6).toInt + 6 ≤ N := by omega
      refine wq_X7_goesScroll q103800 p103924 p103925 (fun r_40 u_41 q103926 q103927 q103928 q103929 => ?_)
      have := q103926.1
      have := q103926.2.1
      refine ⟨(nb_b (by omega)), ?_⟩
      have p103930 : ie [1, 2, 6, 7, 8, 9, 10, 11, 12, 13, 14] u_41.1 s0.1 := (ie_tr q103927 (by decide) (ie_tr q103801 (by decide) (ie_tr q103790 (by decide) (ie_refl _ _))))
      have p103931 : (r_40).toInt = 0 ∨ (r_40).toInt = 1 := by omega
      have p103932 : (s0.1 6).toInt ≤ (u_41.1 6).toInt ∧ (u_41.1 6).toInt ≤ N := by omega
      have : (u_41.1 14).toInt = (u_5.1 14).toInt := ie_i q103927 14 (by decide)
      have : (u_5.1 14).toInt = (u_2.1 14).toInt := ie_i q103801 14 (by decide)
      have : (u_2.1 14).toInt = (s0.1 14).toInt := ie_i q103790 14 (by decide)
      have p103933 : (r_40).toInt = 0 ∨ (u_41.1 14).toInt = (s0.1 14).toInt := by omega
      exact k _ _ q103926 p103930 p103931 p103932 p103933
  · replace c103797 := q_neq c103797
    rw [li_0] at c103797
    have p103934 : 0 < D := by omega
    have p103935 : 0 ≤ (u_2.1 6).toInt ∧ (u_2.1 6).toInt + 3 ≤ N := by omega
    refine wq_X7_goesRow q103789 p103934 p103935 (fun r_43 u_44 q103936 q103937 q103938 q103939 => ?_)
    have := q103936.1
    have := q103936.2.1
    refine ⟨(nb_b (by omega)), ?_⟩
    have p103940 : ie [1, 2, 6, 7, 8, 9, 10, 11, 12, 13, 14] u_44.1 s0.1 := (ie_tr q103937 (by decide) (ie_tr q103790 (by decide) (ie_refl _ _)))
    have p103941 : (r_43).toInt = 0 ∨ (r_43).toInt = 1 := by omega
    have p103942 : (s0.1 6).toInt ≤ (u_44.1 6).toInt ∧ (u_44.1 6).toInt ≤ N := by omega
    have : (u_44.1 14).toInt = (u_2.1 14).toInt := ie_i q103937 14 (by decide)
    have : (u_2.1 14).toInt = (s0.1 14).toInt := ie_i q103790 14 (by decide)
    have p103943 : (r_43).toInt = 0 ∨ (u_44.1 14).toInt = (s0.1 14).toInt := by omega
    exact k _ _ q103936 p103940 p103941 p103942 p103943
theorem wq_X7_goesAll_2_L10 {post : Int32 → Md → Prop} {e27 : Md → Int32 → Prop} {e29 : Md → Int32 → Prop} {D N R W G : Int} {A : Nat → Int32} (h103944 : 0 < D) (ke27 : ∀ (t0 : Md) (z1 : Int32), mb (N) (R) (W) (D) t0 → ie [1, 2, 6, 7, 8, 9, 10, 11, 12, 13, 14] t0.1 A → G ≤ (t0.1 6).toInt ∧ (t0.1 6).toInt ≤ N → e27 t0 z1) (ke29 : ∀ (t0 : Md) (z1 : Int32), mb (N) (R) (W) (D) t0 → ie [1, 2, 6, 7, 8, 9, 10, 11, 12, 13, 14] t0.1 A → (t0.1 14).toInt = 2 → G ≤ (t0.1 6).toInt ∧ (t0.1 6).toInt ≤ N → e29 t0 z1) : ∀ (n : Nat) (t0 : Md) (z1 : Int32), mb (N) (R) (W) (D) t0 → ie [1, 2, 6, 7, 8, 9, 10, 11, 12, 13, 14] t0.1 A → (t0.1 14).toInt = 2 → 0 ≤ G ∧ G ≤ (t0.1 6).toInt ∧ (t0.1 6).toInt ≤ N → N - (t0.1 6).toInt < (n : Int) → wp_X7_goesAll_2_L10 post e27 e29 n t0 z1 := by
  intro n
  induction n with
  | zero =>
    intro t0 z1 i103945 i103946 i103947 i103948 i103949
    have := i103945.1
    have := i103945.2.1
    have := i103945.2.2.1
    have := i103945.2.2.2.1
    exfalso
    omega
  | succ n ih =>
    intro t0 z1 i103945 i103946 i103947 i103948 i103949
    unfold wp_X7_goesAll_2_L10
    have := i103945.1
    have := i103945.2.1
    have := i103945.2.2.1
    have := i103945.2.2.2.1
    have p103950 : 0 ≤ (t0.1 6).toInt ∧ (t0.1 6).toInt ≤ N := by omega
    have p103951 : ¬ ((59 : Int32)).toInt = -1 := by (have := li_59; omega)
    refine wq_X7_takesByte i103945 p103950 p103951 (fun r_4 u_5 q103952 q103953 q103954 q103955 q103956 q103957 => ?_)
    have := q103952.1
    have := q103952.2.1
    refine ⟨fun c103958 => ?_, fun c103959 => ?_⟩
    · replace c103958 := q_eq c103958
      rw [li_0] at c103958
      have p103960 : ie [1, 2, 6, 7, 8, 9, 10, 11, 12, 13, 14] u_5.1 A := (ie_tr q103953 (by decide) (ie_tr i103946 (by decide) (ie_refl _ _)))
      have : (u_5.1 14).toInt = (t0.1 14).toInt := ie_i q103953 14 (by decide)
      have p103961 : (u_5.1 14).toInt = 2 := by omega
      have p103962 : G ≤ (u_5.1 6).toInt ∧ (u_5.1 6).toInt ≤ N := by omega
      exact ke29 _ _ q103952 p103960 p103961 p103962
    · replace c103959 := q_neq c103959
      rw [li_0] at c103959
      have p103963 : 0 < D := by omega
      have p103964 : 0 ≤ (u_5.1 6).toInt ∧ (u_5.1 6).toInt ≤ N := by omega
      have : (u_5.1 14).toInt = (t0.1 14).toInt := ie_i q103953 14 (by decide)
      have p103965 : (u_5.1 14).toInt = 2 := by omega
      refine wq_X7_goesOne_2 q103952 p103963 p103964 p103965 (fun r_7 u_8 q103966 q103967 q103968 q103969 q103970 => ?_)
      have := q103966.1
      have := q103966.2.1
      refine ⟨fun c103971 => ?_, fun c103972 => ?_⟩
      · replace c103971 := q_neq c103971
        rw [li_0] at c103971
        have p103973 : ie [1, 2, 6, 7, 8, 9, 10, 11, 12, 13, 14] u_8.1 A := (ie_tr q103967 (by decide) (ie_tr q103953 (by decide) (ie_tr i103946 (by decide) (ie_refl _ _))))
        have p103974 : (u_8.1 14).toInt = 2 := by omega
        have p103975 : 0 ≤ G ∧ G ≤ (u_8.1 6).toInt ∧ (u_8.1 6).toInt ≤ N := by omega
        have p103976 : N - (u_8.1 6).toInt < ((n : Nat) : Int) := by (omega)
        exact ih _ _ q103966 p103973 p103974 p103975 p103976
      · replace c103972 := q_eq c103972
        rw [li_0] at c103972
        have p103977 : ie [1, 2, 6, 7, 8, 9, 10, 11, 12, 13, 14] u_8.1 A := (ie_tr q103967 (by decide) (ie_tr q103953 (by decide) (ie_tr i103946 (by decide) (ie_refl _ _))))
        have p103978 : G ≤ (u_8.1 6).toInt ∧ (u_8.1 6).toInt ≤ N := by omega
        exact ke27 _ _ q103966 p103977 p103978
theorem wq_X7_goesAll_2 {post : Int32 → Md → Prop} {s0 : Md} {x1 : Int32} {N R W D : Int} (h103979 : mb (N) (R) (W) (D) s0) (h103980 : 0 < D) (h103981 : 0 ≤ (s0.1 6).toInt ∧ (s0.1 6).toInt ≤ N) (h103982 : (s0.1 14).toInt = 2) (k : ∀ (r : Int32) (u : Md), mb (N) (R) (W) (D) u → ie [1, 2, 6, 7, 8, 9, 10, 11, 12, 13, 14] u.1 s0.1 → (r).toInt = 0 ∨ (r).toInt = 1 → (s0.1 6).toInt ≤ (u.1 6).toInt ∧ (u.1 6).toInt ≤ N → (r).toInt = 0 ∨ (u.1 14).toInt = (s0.1 14).toInt → post r u) : wp_X7_goesAll_2 post s0 x1 := by
  unfold wp_X7_goesAll_2
  have := h103979.1
  have := h103979.2.1
  have := h103979.2.2.1
  have := h103979.2.2.2.1
  have p103983 : 0 < D := by omega
  have p103984 : 0 ≤ (s0.1 6).toInt ∧ (s0.1 6).toInt ≤ N := by omega
  have p103985 : (s0.1 14).toInt = 2 := by omega
  refine wq_X7_goesOne_2 h103979 p103983 p103984 p103985 (fun r_1 u_2 q103986 q103987 q103988 q103989 q103990 => ?_)
  have := q103986.1
  have := q103986.2.1
  refine ⟨fun c103991 => ?_, fun c103992 => ?_⟩
  · replace c103991 := q_neq c103991
    rw [li_0] at c103991
    have p103993 : 0 < D := by omega
    have p103994 : ie [1, 2, 6, 7, 8, 9, 10, 11, 12, 13, 14] u_2.1 u_2.1 := (ie_refl _ _)
    have p103995 : (u_2.1 14).toInt = 2 := by omega
    have p103996 : 0 ≤ ((u_2.1 6).toInt) ∧ ((u_2.1 6).toInt) ≤ (u_2.1 6).toInt ∧ (u_2.1 6).toInt ≤ N := by omega
    obtain ⟨f103997, g103998⟩ := fu_e 500
    have p103999 : N - (u_2.1 6).toInt < (f103997 : Int) := by (omega)
    refine ⟨f103997, wq_X7_goesAll_2_L10 p103993 (fun t0 z1 q104000 q104001 q104002 => ?_) (fun t0 z1 q104003 q104004 q104005 q104006 => ?_) f103997 _ _ q103986 p103994 p103995 p103996 p103999⟩
    · have := q104000.1
      have := q104000.2.1
      have p104007 : ie [1, 2, 6, 7, 8, 9, 10, 11, 12, 13, 14] t0.1 s0.1 := (ie_tr q104001 (by decide) (ie_tr q103987 (by decide) (ie_refl _ _)))
      have p104008 : (0 : Int32).toInt = 0 ∨ (0 : Int32).toInt = 1 := by (have := li_0; omega)
      have p104009 : (s0.1 6).toInt ≤ (t0.1 6).toInt ∧ (t0.1 6).toInt ≤ N := by omega
      have p104010 : (0 : Int32).toInt = 0 ∨ (t0.1 14).toInt = (s0.1 14).toInt := by (have := li_0; omega)
      exact k _ _ q104000 p104007 p104008 p104009 p104010
    · have := q104003.1
      have := q104003.2.1
      have p104011 : ie [1, 2, 6, 7, 8, 9, 10, 11, 12, 13, 14] t0.1 s0.1 := (ie_tr q104004 (by decide) (ie_tr q103987 (by decide) (ie_refl _ _)))
      have p104012 : (1 : Int32).toInt = 0 ∨ (1 : Int32).toInt = 1 := by (have := li_1; omega)
      have p104013 : (s0.1 6).toInt ≤ (t0.1 6).toInt ∧ (t0.1 6).toInt ≤ N := by omega
      have p104014 : (1 : Int32).toInt = 0 ∨ (t0.1 14).toInt = (s0.1 14).toInt := by (have := li_1; omega)
      exact k _ _ q104003 p104011 p104012 p104013 p104014
  · replace c103992 := q_eq c103992
    rw [li_0] at c103992
    have p104015 : ie [1, 2, 6, 7, 8, 9, 10, 11, 12, 13, 14] u_2.1 s0.1 := (ie_tr q103987 (by decide) (ie_refl _ _))
    have p104016 : (0 : Int32).toInt = 0 ∨ (0 : Int32).toInt = 1 := by (have := li_0; omega)
    have p104017 : (s0.1 6).toInt ≤ (u_2.1 6).toInt ∧ (u_2.1 6).toInt ≤ N := by omega
    have p104018 : (0 : Int32).toInt = 0 ∨ (u_2.1 14).toInt = (s0.1 14).toInt := by (have := li_0; omega)
    exact k _ _ q103986 p104015 p104016 p104017 p104018
