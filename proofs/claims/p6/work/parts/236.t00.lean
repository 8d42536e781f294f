theorem wq_X7_asks_L13 {post : Md → Prop} {e135 : Md → Int32 → Int32 → Int32 → Int32 → Int32 → Prop} {D N R W : Int} {A : Nat → Int32} (h101290 : 0 < D) (ke135 : ∀ (t0 : Md) (z1 : Int32) (z2 : Int32) (z3 : Int32) (z4 : Int32) (z5 : Int32), mb (N) (R) (W) (D) t0 → ie [3, 4] t0.1 A → 0 ≤ (z1).toInt ∧ (z1).toInt < R → 0 ≤ (z5).toInt ∧ (z5).toInt ≤ W → 0 ≤ (z2).toInt ∧ (z2).toInt ≤ 10 ∧ 0 ≤ (z3).toInt ∧ 0 ≤ (z4).toInt ∧ (z3).toInt + (z4).toInt ≤ 400 → e135 t0 z1 z2 z3 z4 z5) : ∀ (n : Nat) (t0 : Md) (z1 : Int32) (z2 : Int32) (z3 : Int32) (z4 : Int32) (z5 : Int32), mb (N) (R) (W) (D) t0 → ie [3, 4] t0.1 A → 0 ≤ (z1).toInt ∧ (z1).toInt < R → 0 ≤ (z5).toInt ∧ (z5).toInt ≤ W → 0 ≤ (z2).toInt ∧ (z2).toInt ≤ 10 ∧ 0 ≤ (z3).toInt ∧ 0 ≤ (z4).toInt ∧ (z3).toInt + (z4).toInt ≤ 400 → W - (z5).toInt < (n : Int) → wp_X7_asks_L13 post e135 n t0 z1 z2 z3 z4 z5 := by
  intro n
  induction n with
  | zero =>
    intro t0 z1 z2 z3 z4 z5 i101291 i101292 i101293 i101294 i101295 i101296
    have := i101291.1
    have := i101291.2.1
    have := i101291.2.2.1
    have := i101291.2.2.2.1
    exfalso
    omega
  | succ n ih =>
    intro t0 z1 z2 z3 z4 z5 i101291 i101292 i101293 i101294 i101295 i101296
    unfold wp_X7_asks_L13
    have := i101291.1
    have := i101291.2.1
    have := i101291.2.2.1
    have := i101291.2.2.2.1
    refine wq_X7_wide i101291 (fun r_1 q101297 => ?_)
    refine ⟨fun c101298 => ?_, fun c101299 => ?_⟩
    · replace c101298 := q_le c101298
      have p101300 : ie [3, 4] t0.1 A := (ie_tr i101292 (by decide) (ie_refl _ _))
      have p101301 : 0 ≤ (z1).toInt ∧ (z1).toInt < R := by omega
      have p101302 : 0 ≤ (z5).toInt ∧ (z5).toInt ≤ W := by omega
      have p101303 : 0 ≤ (z2).toInt ∧ (z2).toInt ≤ 10 ∧ 0 ≤ (z3).toInt ∧ 0 ≤ (z4).toInt ∧ (z3).toInt + (z4).toInt ≤ 400 := by omega
      exact ke135 _ _ _ _ _ _ i101291 p101300 p101301 p101302 p101303
    · replace c101299 := q_nle c101299
      refine wq_X7_wide i101291 (fun r_4 q101304 => ?_)
      refine ⟨fun c101305 => ?_, fun c101306 => ?_⟩
      · replace c101305 := q_lt c101305
        have := rw_r (a := z1) (b := r_4) (R := R) (W := W) (by omega) (by omega) (by omega)
        have e101307 := tq_add (r_4 * z1) z5
        try rw [Int.emod_eq_of_lt (show 0 ≤ (r_4 * z1).toInt + (z5).toInt + 2147483648 by omega) (show (r_4 * z1).toInt + (z5).toInt + 2147483648 < 4294967296 by omega)] at e101307
        have p101308 : 0 ≤ ((r_4 * z1) + z5).toInt ∧ ((r_4 * z1) + z5).toInt < 40 := by omega
        refine wq_X7_of_2 i101291 p101308 (fun r_7 q101309 q101310 => ?_)
        have p101311 : 0 ≤ ((r_4 * z1) + z5).toInt ∧ ((r_4 * z1) + z5).toInt < 40 := by omega
        refine wq_X7_flaps i101291 p101311 (fun r_9 q101312 => ?_)
        have p101313 : 1 ≤ (r_9).toInt ∧ (r_9).toInt ≤ 40 := by omega
        have p101314 : 0 ≤ (r_7).toInt ∧ (r_7).toInt < (r_9).toInt := by omega
        have p101315 : 0 ≤ ((0 : Int32)).toInt ∧ ((0 : Int32)).toInt < (r_9).toInt := by (have := li_0; omega)
        refine wq_X7_on p101313 p101314 p101315 (fun r_11 q101316 => ?_)
        try simp only [li_0] at q101316
        have : (t0.1 5).toInt = (A 5).toInt := ie_i i101292 5 (by decide)
        have p101317 : (t0.1 5).toInt = N := by omega
        have : (t0.1 0).toInt = (A 0).toInt := ie_i i101292 0 (by decide)
        have p101318 : 0 ≤ (t0.1 0).toInt ∧ (t0.1 0).toInt ≤ 10 := by omega
        have p101319 : 0 ≤ N ∧ N ≤ 400 := by omega
        have p101320 : 0 ≤ R ∧ R ≤ 6 ∧ 0 ≤ W ∧ W ≤ 10 ∧ 0 ≤ R * W ∧ R * W ≤ 40 ∧ 0 ≤ D ∧ D ≤ 4 ∧ (D ≤ 0 ∨ 1 ≤ R) ∧ (1 ≤ R ∨ R * W = 0) := by omega
        have B101321 : mb (N) (R) (W) (D) ((va_up t0.1 3 ((t0.1 3) + r_11)), t0.2.1, t0.2.2.1, t0.2.2.2) := ⟨p101317, p101318, p101319, p101320, i101291.2.2.2.2.1, i101291.2.2.2.2.2.1, i101291.2.2.2.2.2.2.1, i101291.2.2.2.2.2.2.2⟩
        have p101322 : ie [3, 4] (va_up t0.1 3 ((t0.1 3) + r_11)) A := (ie_up (ie_tr i101292 (by decide) (ie_refl _ _)) (by decide))
        have p101323 : 0 ≤ (z1).toInt ∧ (z1).toInt < R := by omega
        have e101324 := tq_addr li_1 z5
        try rw [Int.emod_eq_of_lt (show 0 ≤ (z5).toInt + 1 + 2147483648 by omega) (show (z5).toInt + 1 + 2147483648 < 4294967296 by omega)] at e101324
        have p101325 : 0 ≤ (z5 + 1).toInt ∧ (z5 + 1).toInt ≤ W := by omega
        have p101326 : 0 ≤ (z2).toInt ∧ (z2).toInt ≤ 10 ∧ 0 ≤ (z3).toInt ∧ 0 ≤ (z4).toInt ∧ (z3).toInt + (z4).toInt ≤ 400 := by omega
        have p101327 : W - (z5 + 1).toInt < ((n : Nat) : Int) := by (omega)
        exact ih _ _ _ _ _ _ B101321 p101322 p101323 p101325 p101326 p101327
      · replace c101306 := q_nlt c101306
        refine ⟨fun c101328 => ?_, fun c101329 => ?_⟩
        · replace c101328 := q_le c101328
          have e101330 := tq_add z2 z4
          try rw [Int.emod_eq_of_lt (show 0 ≤ (z2).toInt + (z4).toInt + 2147483648 by omega) (show (z2).toInt + (z4).toInt + 2147483648 < 4294967296 by omega)] at e101330
          have := rw_r (a := z1) (b := r_4) (R := R) (W := W) (by omega) (by omega) (by omega)
          have e101331 := tq_add (r_4 * z1) z5
          try rw [Int.emod_eq_of_lt (show 0 ≤ (r_4 * z1).toInt + (z5).toInt + 2147483648 by omega) (show (r_4 * z1).toInt + (z5).toInt + 2147483648 < 4294967296 by omega)] at e101331
          have p101332 : 0 ≤ ((r_4 * z1) + z5).toInt ∧ ((r_4 * z1) + z5).toInt < 40 := by omega
          refine wq_X7_of_2 i101291 p101332 (fun r_14 q101333 q101334 => ?_)
          have p101335 : 0 ≤ ((r_4 * z1) + z5).toInt ∧ ((r_4 * z1) + z5).toInt < 40 := by omega
          refine wq_X7_flaps i101291 p101335 (fun r_16 q101336 => ?_)
          have p101337 : 1 ≤ (r_16).toInt ∧ (r_16).toInt ≤ 40 := by omega
          have p101338 : 0 ≤ (r_14).toInt ∧ (r_14).toInt < (r_16).toInt := by omega
          have p101339 : 0 ≤ ((0 : Int32)).toInt ∧ ((0 : Int32)).toInt < (r_16).toInt := by (have := li_0; omega)
          refine wq_X7_on p101337 p101338 p101339 (fun r_18 q101340 => ?_)
          try simp only [li_0] at q101340
          have : (t0.1 5).toInt = (A 5).toInt := ie_i i101292 5 (by decide)
          have p101341 : (t0.1 5).toInt = N := by omega
          have : (t0.1 0).toInt = (A 0).toInt := ie_i i101292 0 (by decide)
          have p101342 : 0 ≤ (t0.1 0).toInt ∧ (t0.1 0).toInt ≤ 10 := by omega
          have p101343 : 0 ≤ N ∧ N ≤ 400 := by omega
          have p101344 : 0 ≤ R ∧ R ≤ 6 ∧ 0 ≤ W ∧ W ≤ 10 ∧ 0 ≤ R * W ∧ R * W ≤ 40 ∧ 0 ≤ D ∧ D ≤ 4 ∧ (D ≤ 0 ∨ 1 ≤ R) ∧ (1 ≤ R ∨ R * W = 0) := by omega
          have B101345 : mb (N) (R) (W) (D) ((va_up t0.1 3 ((t0.1 3) + r_18)), t0.2.1, t0.2.2.1, t0.2.2.2) := ⟨p101341, p101342, p101343, p101344, i101291.2.2.2.2.1, i101291.2.2.2.2.2.1, i101291.2.2.2.2.2.2.1, i101291.2.2.2.2.2.2.2⟩
          have p101346 : ie [3, 4] (va_up t0.1 3 ((t0.1 3) + r_18)) A := (ie_up (ie_tr i101292 (by decide) (ie_refl _ _)) (by decide))
          have p101347 : 0 ≤ (z1).toInt ∧ (z1).toInt < R := by omega
          have e101348 := tq_addr li_1 z5
          try rw [Int.emod_eq_of_lt (show 0 ≤ (z5).toInt + 1 + 2147483648 by omega) (show (z5).toInt + 1 + 2147483648 < 4294967296 by omega)] at e101348
          have p101349 : 0 ≤ (z5 + 1).toInt ∧ (z5 + 1).toInt ≤ W := by omega
          have p101350 : 0 ≤ (z2).toInt ∧ (z2).toInt ≤ 10 ∧ 0 ≤ (z3).toInt ∧ 0 ≤ (z4).toInt ∧ (z3).toInt + (z4).toInt ≤ 400 := by omega
          have p101351 : W - (z5 + 1).toInt < ((n : Nat) : Int) := by (omega)
          exact ih _ _ _ _ _ _ B101345 p101346 p101347 p101349 p101350 p101351
        · replace c101329 := q_nle c101329
          have e101352 := tq_add z2 z4
          try rw [Int.emod_eq_of_lt (show 0 ≤ (z2).toInt + (z4).toInt + 2147483648 by omega) (show (z2).toInt + (z4).toInt + 2147483648 < 4294967296 by omega)] at e101352
          have e101353 := tq_add z3 z5
          try rw [Int.emod_eq_of_lt (show 0 ≤ (z3).toInt + (z5).toInt + 2147483648 by omega) (show (z3).toInt + (z5).toInt + 2147483648 < 4294967296 by omega)] at e101353
          have e101354 := tq_sub (z3 + z5) z2
          try rw [Int.emod_eq_of_lt (show 0 ≤ (z3 + z5).toInt - (z2).toInt + 2147483648 by omega) (show (z3 + z5).toInt - (z2).toInt + 2147483648 < 4294967296 by omega)] at e101354
          have v101355 : vp_in ((z3 + z5) - z2) 400 := vi (by omega) (by omega)
          refine ⟨v101355, ?_⟩
          have := rw_r (a := z1) (b := r_4) (R := R) (W := W) (by omega) (by omega) (by omega)
          have e101356 := tq_add (r_4 * z1) z5
          try rw [Int.emod_eq_of_lt (show 0 ≤ (r_4 * z1).toInt + (z5).toInt + 2147483648 by omega) (show (r_4 * z1).toInt + (z5).toInt + 2147483648 < 4294967296 by omega)] at e101356
          have p101357 : 0 ≤ ((r_4 * z1) + z5).toInt ∧ ((r_4 * z1) + z5).toInt < 40 := by omega
          have p101358 : 0 < D := by omega
          refine wq_X7_flapFor i101291 p101357 p101358 (fun r_21 q101359 => ?_)
          refine ⟨fun c101360 => ?_, fun c101361 => ?_⟩
          · replace c101360 := q_neq c101360
            rw [li_m1] at c101360
            have p101362 : 0 ≤ ((r_4 * z1) + z5).toInt ∧ ((r_4 * z1) + z5).toInt < 40 := by omega
            refine wq_X7_of_2 i101291 p101362 (fun r_24 q101363 q101364 => ?_)
            have p101365 : 0 ≤ ((r_4 * z1) + z5).toInt ∧ ((r_4 * z1) + z5).toInt < 40 := by omega
            refine wq_X7_flaps i101291 p101365 (fun r_26 q101366 => ?_)
            have p101367 : 1 ≤ (r_26).toInt ∧ (r_26).toInt ≤ 40 := by omega
            have p101368 : 0 ≤ (r_24).toInt ∧ (r_24).toInt < (r_26).toInt := by omega
            have p101369 : 0 ≤ (r_21).toInt ∧ (r_21).toInt < (r_26).toInt := by omega
            refine wq_X7_on p101367 p101368 p101369 (fun r_28 q101370 => ?_)
            have : (t0.1 5).toInt = (A 5).toInt := ie_i i101292 5 (by decide)
            have p101371 : (t0.1 5).toInt = N := by omega
            have : (t0.1 0).toInt = (A 0).toInt := ie_i i101292 0 (by decide)
            have p101372 : 0 ≤ (t0.1 0).toInt ∧ (t0.1 0).toInt ≤ 10 := by omega
            have p101373 : 0 ≤ N ∧ N ≤ 400 := by omega
            have p101374 : 0 ≤ R ∧ R ≤ 6 ∧ 0 ≤ W ∧ W ≤ 10 ∧ 0 ≤ R * W ∧ R * W ≤ 40 ∧ 0 ≤ D ∧ D ≤ 4 ∧ (D ≤ 0 ∨ 1 ≤ R) ∧ (1 ≤ R ∨ R * W = 0) := by omega
            have B101375 : mb (N) (R) (W) (D) ((va_up t0.1 3 ((t0.1 3) + r_28)), t0.2.1, t0.2.2.1, t0.2.2.2) := ⟨p101371, p101372, p101373, p101374, i101291.2.2.2.2.1, i101291.2.2.2.2.2.1, i101291.2.2.2.2.2.2.1, i101291.2.2.2.2.2.2.2⟩
            have p101376 : ie [3, 4] (va_up t0.1 3 ((t0.1 3) + r_28)) A := (ie_up (ie_tr i101292 (by decide) (ie_refl _ _)) (by decide))
            have p101377 : 0 ≤ (z1).toInt ∧ (z1).toInt < R := by omega
            have e101378 := tq_addr li_1 z5
            try rw [Int.emod_eq_of_lt (show 0 ≤ (z5).toInt + 1 + 2147483648 by omega) (show (z5).toInt + 1 + 2147483648 < 4294967296 by omega)] at e101378
            have p101379 : 0 ≤ (z5 + 1).toInt ∧ (z5 + 1).toInt ≤ W := by omega
            have p101380 : 0 ≤ (z2).toInt ∧ (z2).toInt ≤ 10 ∧ 0 ≤ (z3).toInt ∧ 0 ≤ (z4).toInt ∧ (z3).toInt + (z4).toInt ≤ 400 := by omega
            have p101381 : W - (z5 + 1).toInt < ((n : Nat) : Int) := by (omega)
            exact ih _ _ _ _ _ _ B101375 p101376 p101377 p101379 p101380 p101381
          · replace c101361 := q_eq c101361
            rw [li_m1] at c101361
            have : (t0.1 5).toInt = (A 5).toInt := ie_i i101292 5 (by decide)
            have p101382 : (t0.1 5).toInt = N := by omega
            have : (t0.1 0).toInt = (A 0).toInt := ie_i i101292 0 (by decide)
            have p101383 : 0 ≤ (t0.1 0).toInt ∧ (t0.1 0).toInt ≤ 10 := by omega
            have p101384 : 0 ≤ N ∧ N ≤ 400 := by omega
            have p101385 : 0 ≤ R ∧ R ≤ 6 ∧ 0 ≤ W ∧ W ≤ 10 ∧ 0 ≤ R * W ∧ R * W ≤ 40 ∧ 0 ≤ D ∧ D ≤ 4 ∧ (D ≤ 0 ∨ 1 ≤ R) ∧ (1 ≤ R ∨ R * W = 0) := by omega
            have B101386 : mb (N) (R) (W) (D) ((va_up t0.1 4 ((t0.1 4) + 1)), t0.2.1, t0.2.2.1, t0.2.2.2) := ⟨p101382, p101383, p101384, p101385, i101291.2.2.2.2.1, i101291.2.2.2.2.2.1, i101291.2.2.2.2.2.2.1, i101291.2.2.2.2.2.2.2⟩
            have p101387 : ie [3, 4] (va_up t0.1 4 ((t0.1 4) + 1)) A := (ie_up (ie_tr i101292 (by decide) (ie_refl _ _)) (by decide))
            have p101388 : 0 ≤ (z1).toInt ∧ (z1).toInt < R := by omega
            have e101389 := tq_addr li_1 z5
            try rw [Int.emod_eq_of_lt (show 0 ≤ (z5).toInt + 1 + 2147483648 by omega) (show (z5).toInt + 1 + 2147483648 < 4294967296 by omega)] at e101389
            have p101390 : 0 ≤ (z5 + 1).toInt ∧ (z5 + 1).toInt ≤ W := by omega
            have p101391 : 0 ≤ (z2).toInt ∧ (z2).toInt ≤ 10 ∧ 0 ≤ (z3).toInt ∧ 0 ≤ (z4).toInt ∧ (z3).toInt + (z4).toInt ≤ 400 := by omega
            have p101392 : W - (z5 + 1).toInt < ((n : Nat) : Int) := by (omega)
            exact ih _ _ _ _ _ _ B101386 p101387 p101388 p101390 p101391 p101392
theorem wq_X7_asks {post : Md → Prop} {s0 : Md} {x1 : Int32} {x2 : Int32} {x3 : Int32} {x4 : Int32} {N R W D : Int} (h101393 : mb (N) (R) (W) (D) s0) (h101394 : 0 < D) (h101395 : 0 ≤ (x1).toInt ∧ (x1).toInt < R) (h101396 : 0 ≤ (x2).toInt ∧ (x2).toInt ≤ 10 ∧ 0 ≤ (x3).toInt ∧ 0 ≤ (x4).toInt ∧ (x3).toInt + (x4).toInt ≤ 400) (k : ∀ (u : Md), mb (N) (R) (W) (D) u → ie [3, 4] u.1 s0.1 → post u) : wp_X7_asks post s0 x1 x2 x3 x4 := by
  unfold wp_X7_asks
  have := h101393.1
  have := h101393.2.1
  have := h101393.2.2.1
  have := h101393.2.2.2.1
  have p101397 : 0 < D := by omega
  have p101398 : (s0.1 5).toInt = N := by omega
  have p101399 : 0 ≤ (s0.1 0).toInt ∧ (s0.1 0).toInt ≤ 10 := by omega
  have p101400 : 0 ≤ N ∧ N ≤ 400 := by omega
  have p101401 : 0 ≤ R ∧ R ≤ 6 ∧ 0 ≤ W ∧ W ≤ 10 ∧ 0 ≤ R * W ∧ R * W ≤ 40 ∧ 0 ≤ D ∧ D ≤ 4 ∧ (D ≤ 0 ∨ 1 ≤ R) ∧ (1 ≤ R ∨ R * W = 0) := by omega
  have B101402 : mb (N) (R) (W) (D) ((va_up (va_up s0.1 3 0) 4 0), s0.2.1, s0.2.2.1, s0.2.2.2) := ⟨p101398, p101399, p101400, p101401, h101393.2.2.2.2.1, h101393.2.2.2.2.2.1, h101393.2.2.2.2.2.2.1, h101393.2.2.2.2.2.2.2⟩
  have p101403 : ie [3, 4] (va_up (va_up s0.1 3 0) 4 0) (va_up (va_up s0.1 3 0) 4 0) := (ie_refl _ _)
  have p101404 : 0 ≤ (x1).toInt ∧ (x1).toInt < R := by omega
  have p101405 : 0 ≤ (0 : Int32).toInt ∧ (0 : Int32).toInt ≤ W := by (have := li_0; omega)
  have p101406 : 0 ≤ (x2).toInt ∧ (x2).toInt ≤ 10 ∧ 0 ≤ (x3).toInt ∧ 0 ≤ (x4).toInt ∧ (x3).toInt + (x4).toInt ≤ 400 := by omega
  obtain ⟨f101407, g101408⟩ := fu_e 50
  have p101409 : W - (0 : Int32).toInt < (f101407 : Int) := by (have := li_0; omega)
  refine ⟨f101407, wq_X7_asks_L13 p101397 (fun t0 z1 z2 z3 z4 z5 q101410 q101411 q101412 q101413 q101414 => ?_) f101407 _ _ _ _ _ _ B101402 p101403 p101404 p101405 p101406 p101409⟩
  have := q101410.1
  have := q101410.2.1
  have p101415 : ie [3, 4] t0.1 s0.1 := (ie_tr q101411 (by decide) (ie_up (ie_up (ie_refl _ _) (by decide)) (by decide)))
  exact k _ q101410 p101415
theorem wq_X7_cost {post : Int32 → Md → Prop} {s0 : Md} {x1 : Int32} {N R W D : Int} (h101416 : mb (N) (R) (W) (D) s0) (h101417 : R ≤ 0 ∨ 0 < D) (k : ∀ (r : Int32) (u : Md), mb (N) (R) (W) (D) u → post r u) : wp_X7_cost post s0 x1 := by
  unfold wp_X7_cost
  have := h101416.1
  have := h101416.2.1
  have := h101416.2.2.1
  have := h101416.2.2.2.1
  refine wq_X7_isRow h101416 (fun r_1 q101418 => ?_)
  refine ⟨fun c101419 => ?_, fun c101420 => ?_⟩
  · replace c101419 := q_neq c101419
    rw [li_0] at c101419
    have p101421 : 0 ≤ (s0.1 5).toInt ∧ (s0.1 5).toInt ≤ 400 := by omega
    refine wq_X7_isRowText h101416 p101421 (fun r_4 q101422 => ?_)
    refine ⟨fun c101423 => ?_, fun c101424 => ?_⟩
    · replace c101423 := q_neq c101423
      rw [li_0] at c101423
      have p101425 : 0 < D := by omega
      have p101426 : 0 ≤ (x1).toInt ∧ (x1).toInt < R := by omega
      have p101427 : 0 ≤ ((0 : Int32)).toInt ∧ ((0 : Int32)).toInt ≤ 10 ∧ 0 ≤ ((0 : Int32)).toInt ∧ 0 ≤ (s0.1 5).toInt ∧ ((0 : Int32)).toInt + (s0.1 5).toInt ≤ 400 := by (have := li_0; omega)
      refine wq_X7_asks h101416 p101425 p101426 p101427 (fun u_8 q101428 q101429 => ?_)
      have := q101428.1
      have := q101428.2.1
      exact k _ _ q101428
    · replace c101424 := q_eq c101424
      rw [li_0] at c101424
      exact k _ _ h101416
  · replace c101420 := q_eq c101420
    rw [li_0] at c101420
    exact k _ _ h101416
theorem wq_X7_endOf_L2 {s0 : Md} {post : Int32 → Prop} {e27 : Int32 → Int32 → Prop} {N R W D Y : Int} (h101430 : mb (N) (R) (W) (D) s0) (ke27 : ∀ (z1 : Int32) (z2 : Int32), 0 ≤ (z2).toInt ∧ (z2).toInt ≤ N → (z1).toInt = Y → (z1).toInt ≤ (z2).toInt → e27 z1 z2) : ∀ (n : Nat) (z1 : Int32) (z2 : Int32), 0 ≤ (z2).toInt ∧ (z2).toInt ≤ N → (z1).toInt = Y → (z1).toInt ≤ (z2).toInt → N - (z2).toInt < (n : Int) → wp_X7_endOf_L2 s0 post e27 n z1 z2 := by
  have := h101430.1
  have := h101430.2.1
  have := h101430.2.2.1
  have := h101430.2.2.2.1
  intro n
  induction n with
  | zero =>
    intro z1 z2 i101431 i101432 i101433 i101434
    exfalso
    omega
  | succ n ih =>
    intro z1 z2 i101431 i101432 i101433 i101434
    unfold wp_X7_endOf_L2
    refine ⟨fun c101435 => ?_, fun c101436 => ?_⟩
    · replace c101435 := q_le c101435
      have p101437 : 0 ≤ (z2).toInt ∧ (z2).toInt ≤ N := by omega
      have p101438 : (z1).toInt = Y := by omega
      have p101439 : (z1).toInt ≤ (z2).toInt := by omega
      exact ke27 _ _ p101437 p101438 p101439
    · replace c101436 := q_nle c101436
      have v101440 : vp_in z2 400 := vi (by omega) (by omega)
      refine ⟨v101440, ?_⟩
      refine ⟨fun c101441 => ?_, fun c101442 => ?_⟩
      · replace c101441 := q_eq c101441
        rw [li_47] at c101441
        have p101443 : 0 ≤ (z2).toInt ∧ (z2).toInt ≤ N := by omega
        have p101444 : (z1).toInt = Y := by omega
        have p101445 : (z1).toInt ≤ (z2).toInt := by omega
        exact ke27 _ _ p101443 p101444 p101445
      · replace c101442 := q_neq c101442
        rw [li_47] at c101442
        have e101446 := tq_addr li_1 z2
        try rw [Int.emod_eq_of_lt (show 0 ≤ (z2).toInt + 1 + 2147483648 by omega) (show (z2).toInt + 1 + 2147483648 < 4294967296 by omega)] at e101446
        have p101447 : 0 ≤ (z2 + 1).toInt ∧ (z2 + 1).toInt ≤ N := by omega
        have p101448 : (z1).toInt = Y := by omega
        have p101449 : (z1).toInt ≤ (z2 + 1).toInt := by omega
        have p101450 : N - (z2 + 1).toInt < ((n : Nat) : Int) := by (omega)
        exact ih _ _ p101447 p101448 p101449 p101450
theorem wq_X7_endOf {post : Int32 → Prop} {s0 : Md} {x1 : Int32} {N R W D : Int} (h101451 : mb (N) (R) (W) (D) s0) (h101452 : 0 ≤ (x1).toInt ∧ (x1).toInt ≤ N) (k : ∀ (r : Int32), (x1).toInt ≤ (r).toInt ∧ (r).toInt ≤ N → post r) : wp_X7_endOf post s0 x1 := by
  unfold wp_X7_endOf
  have := h101451.1
  have := h101451.2.1
  have := h101451.2.2.1
  have := h101451.2.2.2.1
  have p101453 : 0 ≤ (x1).toInt ∧ (x1).toInt ≤ N := by omega
  have p101454 : (x1).toInt = ((x1).toInt) := by omega
  have p101455 : (x1).toInt ≤ (x1).toInt := by omega
  obtain ⟨f101456, g101457⟩ := fu_e 500
  have p101458 : N - (x1).toInt < (f101456 : Int) := by (omega)
  refine ⟨f101456, wq_X7_endOf_L2 h101451 (fun z1 z2 q101459 q101460 q101461 => ?_) f101456 _ _ p101453 p101454 p101455 p101458⟩
  have p101462 : (x1).toInt ≤ (z2).toInt ∧ (z2).toInt ≤ N := by omega
  exact k _ p101462
theorem wq_X7_best_L36 {post : Int32 → Md → Prop} {e152 : Md → Int32 → Int32 → Int32 → Int32 → Int32 → Int32 → Int32 → Prop} {D N R W : Int} (h101463 : 0 < D) (ke152 : ∀ (t0 : Md) (z1 : Int32) (z2 : Int32) (z3 : Int32) (z4 : Int32) (z5 : Int32) (z6 : Int32) (z7 : Int32), mb (N) (R) (W) (D) t0 → 0 ≤ (z1).toInt ∧ (z1).toInt < R → 0 ≤ (z7).toInt ∧ (z7).toInt ≤ N + 1 → e152 t0 z1 z2 z3 z4 z5 z6 z7) (k : ∀ (r : Int32) (u : Md), mb (N) (R) (W) (D) u → post r u) : ∀ (n : Nat) (t0 : Md) (z1 : Int32) (z2 : Int32) (z3 : Int32) (z4 : Int32) (z5 : Int32) (z6 : Int32) (z7 : Int32), mb (N) (R) (W) (D) t0 → 0 ≤ (z1).toInt ∧ (z1).toInt < R → 0 ≤ (z7).toInt ∧ (z7).toInt ≤ N + 1 → N + 1 - (z7).toInt < (n : Int) → wp_X7_best_L36 post e152 n t0 z1 z2 z3 z4 z5 z6 z7 := by
  intro n
  induction n with
  | zero =>
    intro t0 z1 z2 z3 z4 z5 z6 z7 i101464 i101465 i101466 i101467
    have := i101464.1
    have := i101464.2.1
    have := i101464.2.2.1
    have := i101464.2.2.2.1
    exfalso
    omega
  | succ n ih =>
    intro t0 z1 z2 z3 z4 z5 z6 z7 i101464 i101465 i101466 i101467
    unfold wp_X7_best_L36
    have := i101464.1
    have := i101464.2.1
    have := i101464.2.2.1
    have := i101464.2.2.2.1
    refine ⟨fun c101468 => ?_, fun c101469 => ?_⟩
    · replace c101468 := q_lt c101468
      have p101470 : 0 ≤ (z1).toInt ∧ (z1).toInt < R := by omega
      have p101471 : 0 ≤ (z7).toInt ∧ (z7).toInt ≤ N + 1 := by omega
      exact ke152 _ _ _ _ _ _ _ _ i101464 p101470 p101471
    · replace c101469 := q_nlt c101469
      have p101472 : 0 ≤ (z7).toInt ∧ (z7).toInt ≤ N := by omega
      refine wq_X7_endOf i101464 p101472 (fun r_8 q101473 => ?_)
      refine wq_X7_wide i101464 (fun r_10 q101474 => ?_)
      refine ⟨fun c101475 => ?_, fun c101476 => ?_⟩
      · replace c101475 := q_lt c101475
        have e101477 := tq_sub r_8 z7
        try rw [Int.emod_eq_of_lt (show 0 ≤ (r_8).toInt - (z7).toInt + 2147483648 by omega) (show (r_8).toInt - (z7).toInt + 2147483648 < 4294967296 by omega)] at e101477
        exact k _ _ i101464
      · replace c101476 := q_nlt c101476
        have e101478 := tq_sub r_8 z7
        try rw [Int.emod_eq_of_lt (show 0 ≤ (r_8).toInt - (z7).toInt + 2147483648 by omega) (show (r_8).toInt - (z7).toInt + 2147483648 < 4294967296 by omega)] at e101478
        have p101479 : 0 ≤ (z7).toInt ∧ 0 ≤ (r_8 - z7).toInt ∧ (z7).toInt + (r_8 - z7).toInt ≤ 400 := by omega
        refine wq_X7_areSigns p101479 (fun r_13 q101480 => ?_)
        refine ⟨fun c101481 => ?_, fun c101482 => ?_⟩
        · replace c101481 := q_neq c101481
          rw [li_0] at c101481
          have p101483 : 0 < D := by omega
          have p101484 : 0 ≤ (z1).toInt ∧ (z1).toInt < R := by omega
          have p101485 : 0 ≤ ((0 : Int32)).toInt ∧ ((0 : Int32)).toInt ≤ 10 ∧ 0 ≤ (z7).toInt ∧ 0 ≤ (r_8 - z7).toInt ∧ (z7).toInt + (r_8 - z7).toInt ≤ 400 := by (have := li_0; omega)
          refine wq_X7_asks i101464 p101483 p101484 p101485 (fun u_17 q101486 q101487 => ?_)
          have := q101486.1
          have := q101486.2.1
          refine ⟨fun c101488 => ?_, fun c101489 => ?_⟩
          · replace c101488 := q_eq c101488
            rw [li_m1] at c101488
            have p101490 : 0 ≤ (z7).toInt ∧ (z7).toInt ≤ N := by omega
            refine wq_X7_endOf q101486 p101490 (fun r_19 q101491 => ?_)
            have p101492 : 0 ≤ (z1).toInt ∧ (z1).toInt < R := by omega
            have e101493 := tq_addr li_1 r_19
            try rw [Int.emod_eq_of_lt (show 0 ≤ (r_19).toInt + 1 + 2147483648 by omega) (show (r_19).toInt + 1 + 2147483648 < 4294967296 by omega)] at e101493
            have p101494 : 0 ≤ (r_19 + 1).toInt ∧ (r_19 + 1).toInt ≤ N + 1 := by omega
            have p101495 : N + 1 - (r_19 + 1).toInt < ((n : Nat) : Int) := by (omega)
            exact ih _ _ _ _ _ _ _ _ q101486 p101492 p101494 p101495
          · replace c101489 := q_neq c101489
            rw [li_m1] at c101489
            refine ⟨fun c101496 => ?_, fun c101497 => ?_⟩
            · replace c101496 := q_lt c101496
              have p101498 : 0 ≤ (z7).toInt ∧ (z7).toInt ≤ N := by omega
              refine wq_X7_endOf q101486 p101498 (fun r_22 q101499 => ?_)
              have p101500 : 0 ≤ (z1).toInt ∧ (z1).toInt < R := by omega
              have e101501 := tq_addr li_1 r_22
              try rw [Int.emod_eq_of_lt (show 0 ≤ (r_22).toInt + 1 + 2147483648 by omega) (show (r_22).toInt + 1 + 2147483648 < 4294967296 by omega)] at e101501
              have p101502 : 0 ≤ (r_22 + 1).toInt ∧ (r_22 + 1).toInt ≤ N + 1 := by omega
              have p101503 : N + 1 - (r_22 + 1).toInt < ((n : Nat) : Int) := by (omega)
              exact ih _ _ _ _ _ _ _ _ q101486 p101500 p101502 p101503
            · replace c101497 := q_nlt c101497
              refine ⟨fun c101504 => ?_, fun c101505 => ?_⟩
              · replace c101504 := q_neq c101504
                have p101506 : 0 ≤ (z7).toInt ∧ (z7).toInt ≤ N := by omega
                refine wq_X7_endOf q101486 p101506 (fun r_25 q101507 => ?_)
                have p101508 : 0 ≤ (z1).toInt ∧ (z1).toInt < R := by omega
                have e101509 := tq_addr li_1 r_25
                try rw [Int.emod_eq_of_lt (show 0 ≤ (r_25).toInt + 1 + 2147483648 by omega) (show (r_25).toInt + 1 + 2147483648 < 4294967296 by omega)] at e101509
                have p101510 : 0 ≤ (r_25 + 1).toInt ∧ (r_25 + 1).toInt ≤ N + 1 := by omega
                have p101511 : N + 1 - (r_25 + 1).toInt < ((n : Nat) : Int) := by (omega)
                exact ih _ _ _ _ _ _ _ _ q101486 p101508 p101510 p101511
              · replace c101505 := q_eq c101505
                refine ⟨fun c101512 => ?_, fun c101513 => ?_⟩
                · replace c101512 := q_le c101512
                  have p101514 : 0 ≤ (z7).toInt ∧ (z7).toInt ≤ N := by omega
                  refine wq_X7_endOf q101486 p101514 (fun r_28 q101515 => ?_)
                  have p101516 : 0 ≤ (z1).toInt ∧ (z1).toInt < R := by omega
                  have e101517 := tq_addr li_1 r_28
                  try rw [Int.emod_eq_of_lt (show 0 ≤ (r_28).toInt + 1 + 2147483648 by omega) (show (r_28).toInt + 1 + 2147483648 < 4294967296 by omega)] at e101517
                  have p101518 : 0 ≤ (r_28 + 1).toInt ∧ (r_28 + 1).toInt ≤ N + 1 := by omega
                  have p101519 : N + 1 - (r_28 + 1).toInt < ((n : Nat) : Int) := by (omega)
                  exact ih _ _ _ _ _ _ _ _ q101486 p101516 p101518 p101519
                · replace c101513 := q_nle c101513
                  have p101520 : 0 ≤ (z7).toInt ∧ (z7).toInt ≤ N := by omega
                  refine wq_X7_endOf q101486 p101520 (fun r_30 q101521 => ?_)
                  have p101522 : 0 ≤ (z1).toInt ∧ (z1).toInt < R := by omega
                  have e101523 := tq_addr li_1 r_30
                  try rw [Int.emod_eq_of_lt (show 0 ≤ (r_30).toInt + 1 + 2147483648 by omega) (show (r_30).toInt + 1 + 2147483648 < 4294967296 by omega)] at e101523
                  have p101524 : 0 ≤ (r_30 + 1).toInt ∧ (r_30 + 1).toInt ≤ N + 1 := by omega
                  have p101525 : N + 1 - (r_30 + 1).toInt < ((n : Nat) : Int) := by (omega)
                  exact ih _ _ _ _ _ _ _ _ q101486 p101522 p101524 p101525
        · replace c101482 := q_eq c101482
          rw [li_0] at c101482
          exact k _ _ i101464
theorem wq_X7_best {post : Int32 → Md → Prop} {s0 : Md} {x1 : Int32} {x2 : Int32} {N R W D : Int} (h101526 : mb (N) (R) (W) (D) s0) (h101527 : R ≤ 0 ∨ 0 < D) (k : ∀ (r : Int32) (u : Md), mb (N) (R) (W) (D) u → post r u) : wp_X7_best post s0 x1 x2 := by
  unfold wp_X7_best
  have := h101526.1
  have := h101526.2.1
  have := h101526.2.2.1
  have := h101526.2.2.2.1
  refine wq_X7_isRow h101526 (fun r_1 q101528 => ?_)
  refine ⟨fun c101529 => ?_, fun c101530 => ?_⟩
  · replace c101529 := q_eq c101529
    rw [li_0] at c101529
    exact k _ _ h101526
  · replace c101530 := q_neq c101530
    rw [li_0] at c101530
    refine wq_X7_in (fun r_4 q101531 => ?_)
    try simp only [lj_0, lj_2] at q101531
    have := tq_64 x2
    refine ⟨fun c101532 => ?_, fun c101533 => ?_⟩
    · replace c101532 := q_neq c101532
      rw [li_0] at c101532
      have p101534 : 0 < D := by omega
      have p101535 : 0 ≤ (x1).toInt ∧ (x1).toInt < R := by omega
      have p101536 : 0 ≤ (0 : Int32).toInt ∧ (0 : Int32).toInt ≤ N + 1 := by (have := li_0; omega)
      obtain ⟨f101537, g101538⟩ := fu_e 500
      have p101539 : N + 1 - (0 : Int32).toInt < (f101537 : Int) := by (have := li_0; omega)
      refine ⟨f101537, wq_X7_best_L36 p101534 (fun t0 z1 z2 z3 z4 z5 z6 z7 q101540 q101541 q101542 => ?_) k f101537 _ _ _ _ _ _ _ _ h101526 p101535 p101536 p101539⟩
      have := q101540.1
      have := q101540.2.1
      refine ⟨fun c101543 => ?_, fun c101544 => ?_⟩
      · replace c101543 := q_neq c101543
        rw [li_0] at c101543
        refine ⟨fun c101545 => ?_, fun c101546 => ?_⟩
        · replace c101545 := q_neq c101545
          rw [li_1] at c101545
          exact k _ _ q101540
        · replace c101546 := q_eq c101546
          rw [li_1] at c101546
          exact k _ _ q101540
      · replace c101544 := q_eq c101544
        rw [li_0] at c101544
        exact k _ _ q101540
    · replace c101533 := q_eq c101533
      rw [li_0] at c101533
      exact k _ _ h101526
theorem wq_X7_place_L52 {post : Int32 → Md → Prop} {e134 : Md → Int32 → Int32 → Int32 → Int32 → Int32 → Int32 → Prop} {D N R W : Int} (h101547 : 0 < D) (ke134 : ∀ (t0 : Md) (z1 : Int32) (z2 : Int32) (z3 : Int32) (z4 : Int32) (z5 : Int32) (z6 : Int32), mb (N) (R) (W) (D) t0 → 0 ≤ (z1).toInt ∧ (z1).toInt < R → 0 ≤ (z6).toInt ∧ (z6).toInt ≤ 11 → e134 t0 z1 z2 z3 z4 z5 z6) : ∀ (n : Nat) (t0 : Md) (z1 : Int32) (z2 : Int32) (z3 : Int32) (z4 : Int32) (z5 : Int32) (z6 : Int32), mb (N) (R) (W) (D) t0 → 0 ≤ (z1).toInt ∧ (z1).toInt < R → 0 ≤ (z6).toInt ∧ (z6).toInt ≤ 11 → 11 - (z6).toInt < (n : Int) → wp_X7_place_L52 post e134 n t0 z1 z2 z3 z4 z5 z6 := by
  intro n
  induction n with
  | zero =>
    intro t0 z1 z2 z3 z4 z5 z6 i101548 i101549 i101550 i101551
    have := i101548.1
    have := i101548.2.1
    have := i101548.2.2.1
    have := i101548.2.2.2.1
    exfalso
    omega
  | succ n ih =>
    intro t0 z1 z2 z3 z4 z5 z6 i101548 i101549 i101550 i101551
    unfold wp_X7_place_L52
    have := i101548.1
    have := i101548.2.1
    have := i101548.2.2.1
    have := i101548.2.2.2.1
    refine wq_X7_wide i101548 (fun r_11 q101552 => ?_)
    refine ⟨fun c101553 => ?_, fun c101554 => ?_⟩
    · replace c101553 := q_lt c101553
      have e101555 := tq_add z6 (t0.1 5)
      try rw [Int.emod_eq_of_lt (show 0 ≤ (z6).toInt + (t0.1 5).toInt + 2147483648 by omega) (show (z6).toInt + (t0.1 5).toInt + 2147483648 < 4294967296 by omega)] at e101555
      have p101556 : 0 ≤ (z1).toInt ∧ (z1).toInt < R := by omega
      have p101557 : 0 ≤ (z6).toInt ∧ (z6).toInt ≤ 11 := by omega
      exact ke134 _ _ _ _ _ _ _ i101548 p101556 p101557
    · replace c101554 := q_nlt c101554
      have e101558 := tq_add z6 (t0.1 5)
      try rw [Int.emod_eq_of_lt (show 0 ≤ (z6).toInt + (t0.1 5).toInt + 2147483648 by omega) (show (z6).toInt + (t0.1 5).toInt + 2147483648 < 4294967296 by omega)] at e101558
      have p101559 : 0 < D := by omega
      have p101560 : 0 ≤ (z1).toInt ∧ (z1).toInt < R := by omega
      have p101561 : 0 ≤ (z6).toInt ∧ (z6).toInt ≤ 10 ∧ 0 ≤ ((0 : Int32)).toInt ∧ 0 ≤ (t0.1 5).toInt ∧ ((0 : Int32)).toInt + (t0.1 5).toInt ≤ 400 := by (have := li_0; omega)
      refine wq_X7_asks i101548 p101559 p101560 p101561 (fun u_15 q101562 q101563 => ?_)
      have := q101562.1
      have := q101562.2.1
      refine ⟨fun c101564 => ?_, fun c101565 => ?_⟩
      · replace c101564 := q_eq c101564
        rw [li_m1] at c101564
        have p101566 : 0 ≤ (z1).toInt ∧ (z1).toInt < R := by omega
        have e101567 := tq_addr li_1 z6
        try rw [Int.emod_eq_of_lt (show 0 ≤ (z6).toInt + 1 + 2147483648 by omega) (show (z6).toInt + 1 + 2147483648 < 4294967296 by omega)] at e101567
        have p101568 : 0 ≤ (z6 + 1).toInt ∧ (z6 + 1).toInt ≤ 11 := by omega
        have p101569 : 11 - (z6 + 1).toInt < ((n : Nat) : Int) := by (omega)
        exact ih _ _ _ _ _ _ _ q101562 p101566 p101568 p101569
      · replace c101565 := q_neq c101565
        rw [li_m1] at c101565
        refine ⟨fun c101570 => ?_, fun c101571 => ?_⟩
        · replace c101570 := q_lt c101570
          have p101572 : 0 ≤ (z1).toInt ∧ (z1).toInt < R := by omega
          have e101573 := tq_addr li_1 z6
          try rw [Int.emod_eq_of_lt (show 0 ≤ (z6).toInt + 1 + 2147483648 by omega) (show (z6).toInt + 1 + 2147483648 < 4294967296 by omega)] at e101573
          have p101574 : 0 ≤ (z6 + 1).toInt ∧ (z6 + 1).toInt ≤ 11 := by omega
          have p101575 : 11 - (z6 + 1).toInt < ((n : Nat) : Int) := by (omega)
          exact ih _ _ _ _ _ _ _ q101562 p101572 p101574 p101575
        · replace c101571 := q_nlt c101571
          refine ⟨fun c101576 => ?_, fun c101577 => ?_⟩
          · replace c101576 := q_neq c101576
            have p101578 : 0 ≤ (z1).toInt ∧ (z1).toInt < R := by omega
            have e101579 := tq_addr li_1 z6
            try rw [Int.emod_eq_of_lt (show 0 ≤ (z6).toInt + 1 + 2147483648 by omega) (show (z6).toInt + 1 + 2147483648 < 4294967296 by omega)] at e101579
            have p101580 : 0 ≤ (z6 + 1).toInt ∧ (z6 + 1).toInt ≤ 11 := by omega
            have p101581 : 11 - (z6 + 1).toInt < ((n : Nat) : Int) := by (omega)
            exact ih _ _ _ _ _ _ _ q101562 p101578 p101580 p101581
          · replace c101577 := q_eq c101577
            refine ⟨fun c101582 => ?_, fun c101583 => ?_⟩
            · replace c101582 := q_lt c101582
              have p101584 : 0 ≤ (z1).toInt ∧ (z1).toInt < R := by omega
              have e101585 := tq_addr li_1 z6
              try rw [Int.emod_eq_of_lt (show 0 ≤ (z6).toInt + 1 + 2147483648 by omega) (show (z6).toInt + 1 + 2147483648 < 4294967296 by omega)] at e101585
              have p101586 : 0 ≤ (z6 + 1).toInt ∧ (z6 + 1).toInt ≤ 11 := by omega
              have p101587 : 11 - (z6 + 1).toInt < ((n : Nat) : Int) := by (omega)
              exact ih _ _ _ _ _ _ _ q101562 p101584 p101586 p101587
            · replace c101583 := q_nlt c101583
              have p101588 : 0 ≤ (z1).toInt ∧ (z1).toInt < R := by omega
              have e101589 := tq_addr li_1 z6
              try rw [Int.emod_eq_of_lt (show 0 ≤ (z6).toInt + 1 + 2147483648 by omega) (show (z6).toInt + 1 + 2147483648 < 4294967296 by omega)] at e101589
              have p101590 : 0 ≤ (z6 + 1).toInt ∧ (z6 + 1).toInt ≤ 11 := by omega
              have p101591 : 11 - (z6 + 1).toInt < ((n : Nat) : Int) := by (omega)
              exact ih _ _ _ _ _ _ _ q101562 p101588 p101590 p101591
theorem wq_X7_place {post : Int32 → Md → Prop} {s0 : Md} {x1 : Int32} {x2 : Int32} {N R W D : Int} (h101592 : mb (N) (R) (W) (D) s0) (h101593 : R ≤ 0 ∨ 0 < D) (k : ∀ (r : Int32) (u : Md), mb (N) (R) (W) (D) u → post r u) : wp_X7_place post s0 x1 x2 := by
  unfold wp_X7_place
  have := h101592.1
  have := h101592.2.1
  have := h101592.2.2.1
  have := h101592.2.2.2.1
  refine wq_X7_isRow h101592 (fun r_1 q101594 => ?_)
  refine ⟨fun c101595 => ?_, fun c101596 => ?_⟩
  · replace c101595 := q_eq c101595
    rw [li_0] at c101595
    exact k _ _ h101592
  · replace c101596 := q_neq c101596
    rw [li_0] at c101596
    refine wq_X7_in (fun r_4 q101597 => ?_)
    try simp only [lj_0, lj_1] at q101597
    have := tq_64 x2
    refine ⟨fun c101598 => ?_, fun c101599 => ?_⟩
    · replace c101598 := q_neq c101598
      rw [li_0] at c101598
      refine ⟨fun c101600 => ?_, fun c101601 => ?_⟩
      · replace c101600 := q_eq c101600
        rw [li_0] at c101600
        exact k _ _ h101592
      · replace c101601 := q_neq c101601
        rw [li_0] at c101601
        have p101602 : 0 ≤ (s0.1 5).toInt ∧ (s0.1 5).toInt ≤ 400 := by omega
        refine wq_X7_isRowText h101592 p101602 (fun r_8 q101603 => ?_)
        refine ⟨fun c101604 => ?_, fun c101605 => ?_⟩
        · replace c101604 := q_neq c101604
          rw [li_0] at c101604
          have p101606 : 0 < D := by omega
          have p101607 : 0 ≤ (x1).toInt ∧ (x1).toInt < R := by omega
          have p101608 : 0 ≤ (0 : Int32).toInt ∧ (0 : Int32).toInt ≤ 11 := by (have := li_0; omega)
          obtain ⟨f101609, g101610⟩ := fu_e 50
          have p101611 : 11 - (0 : Int32).toInt < (f101609 : Int) := by (have := li_0; omega)
          refine ⟨f101609, wq_X7_place_L52 p101606 (fun t0 z1 z2 z3 z4 z5 z6 q101612 q101613 q101614 => ?_) f101609 _ _ _ _ _ _ _ h101592 p101607 p101608 p101611⟩
          have := q101612.1
          have := q101612.2.1
          refine ⟨fun c101615 => ?_, fun c101616 => ?_⟩
          · replace c101615 := q_neq c101615
            rw [li_0] at c101615
            exact k _ _ q101612
          · replace c101616 := q_eq c101616
            rw [li_0] at c101616
            exact k _ _ q101612
        · replace c101605 := q_eq c101605
          rw [li_0] at c101605
          exact k _ _ h101592
    · replace c101599 := q_eq c101599
      rw [li_0] at c101599
      exact k _ _ h101592
theorem wq_X7_logged {post : Int32 → Prop} {s0 : Md} {x1 : Int32} {x2 : Int32} {x3 : Int32} (h101617 : 0 ≤ (x1).toInt ∧ (x1).toInt < 4) (h101618 : 0 ≤ (x2).toInt ∧ (x2).toInt < 40) (h101619 : 0 ≤ (x3).toInt ∧ (x3).toInt < 40) (k : ∀ (r : Int32), post r) : wp_X7_logged post s0 x1 x2 x3 := by
  unfold wp_X7_logged
  have e101620 := tq_mulc li_40 x1
  try rw [Int.emod_eq_of_lt (show 0 ≤ 40 * (x1).toInt + 2147483648 by omega) (show 40 * (x1).toInt + 2147483648 < 4294967296 by omega)] at e101620
  have e101621 := tq_add (40 * x1) x2
  try rw [Int.emod_eq_of_lt (show 0 ≤ (40 * x1).toInt + (x2).toInt + 2147483648 by omega) (show (40 * x1).toInt + (x2).toInt + 2147483648 < 4294967296 by omega)] at e101621
  have e101622 := tq_mulc li_40 ((40 * x1) + x2)
  try rw [Int.emod_eq_of_lt (show 0 ≤ 40 * ((40 * x1) + x2).toInt + 2147483648 by omega) (show 40 * ((40 * x1) + x2).toInt + 2147483648 < 4294967296 by omega)] at e101622
  have e101623 := tq_addc li_496 (40 * ((40 * x1) + x2))
  try rw [Int.emod_eq_of_lt (show 0 ≤ 496 + (40 * ((40 * x1) + x2)).toInt + 2147483648 by omega) (show 496 + (40 * ((40 * x1) + x2)).toInt + 2147483648 < 4294967296 by omega)] at e101623
  have e101624 := tq_add (496 + (40 * ((40 * x1) + x2))) x3
  try rw [Int.emod_eq_of_lt (show 0 ≤ (496 + (40 * ((40 * x1) + x2))).toInt + (x3).toInt + 2147483648 by omega) (show (496 + (40 * ((40 * x1) + x2))).toInt + (x3).toInt + 2147483648 < 4294967296 by omega)] at e101624
  have v101625 : vp_in ((496 + (40 * ((40 * x1) + x2))) + x3) 6896 := vi (by omega) (by omega)
  refine ⟨v101625, ?_⟩
  exact k _
