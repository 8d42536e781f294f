theorem wq_X2_startCounting {post : Mo → Prop} {s0 : Mo} (h2342 : mo s0) (k : ∀ (u : Mo), mo u → post u) : wp_X2_startCounting post s0 := by
  unfold wp_X2_startCounting
  have := h2342.1
  have p2343 : 0 ≤ (s0.1 0).toInt ∧ (s0.1 0).toInt ≤ 40 := by omega
  have p2344 : ar 40 (-1) (39) (s0.2 0) := h2342.2.1
  have p2345 : ar 40 (-1) (39) (s0.2 1) := h2342.2.2.1
  have p2346 : ar 40 (0) (39) (s0.2 2) := h2342.2.2.2
  have B2347 : mo ((va_up (va_up (va_up (va_up (va_up (va_up (va_up s0.1 2 0) 3 0) 4 0) 5 0) 6 0) 7 0) 8 0), s0.2) := ⟨p2343, p2344, p2345, p2346⟩
  exact k _ B2347
theorem wq_X2_sortByLeft_L17 {s1 : Bd} {post : Int32 → Mo → Prop} {e74 : Mo → Int32 → Int32 → Prop} {R W : Int} (h2348 : bi (R) (W) s1) (ke74 : ∀ (t0 : Mo) (z2 : Int32) (z3 : Int32), mo t0 → 0 ≤ (z2).toInt ∧ (z2).toInt ≤ 39 → -1 ≤ (z3).toInt ∧ (z3).toInt < R * W → e74 t0 z2 z3) : ∀ (n : Nat) (t0 : Mo) (z2 : Int32) (z3 : Int32), mo t0 → 0 ≤ (z2).toInt ∧ (z2).toInt ≤ 39 → -1 ≤ (z3).toInt ∧ (z3).toInt < R * W → (z3).toInt + 1 < (n : Int) → wp_X2_sortByLeft_L17 s1 post e74 n t0 z2 z3 := by
  have := h2348.1
  have := h2348.2.1
  have := h2348.2.2.1
  have := h2348.2.2.2.1
  have := h2348.2.2.2.2.2.2.2.2.2
  intro n
  induction n with
  | zero =>
    intro t0 z2 z3 i2349 i2350 i2351 i2352
    have := i2349.1
    exfalso
    omega
  | succ n ih =>
    intro t0 z2 z3 i2349 i2350 i2351 i2352
    unfold wp_X2_sortByLeft_L17
    have := i2349.1
    refine ⟨fun c2353 => ?_, fun c2354 => ?_⟩
    · replace c2353 := q_lt c2353
      rw [li_0] at c2353
      have p2355 : 0 ≤ (z2).toInt ∧ (z2).toInt ≤ 39 := by omega
      have p2356 : -1 ≤ (z3).toInt ∧ (z3).toInt < R * W := by omega
      exact ke74 _ _ _ i2349 p2355 p2356
    · replace c2354 := q_nlt c2354
      rw [li_0] at c2354
      have p2357 : 0 ≤ (z3).toInt ∧ (z3).toInt < 40 := by omega
      refine wq_X0_leftOf h2348 p2357 (fun r_5 => ?_)
      refine ⟨fun c2358 => ?_, fun c2359 => ?_⟩
      · replace c2358 := q_le c2358
        rw [li_0] at c2358
        generalize hy2361 : (z3 + (-1)) = y2360
        have e2362 := tq_addr li_m1 z3
        rw [hy2361] at e2362
        try rw [Int.emod_eq_of_lt (show 0 ≤ (z3).toInt + (-1) + 2147483648 by omega) (show (z3).toInt + (-1) + 2147483648 < 4294967296 by omega)] at e2362
        have p2363 : 0 ≤ (z2).toInt ∧ (z2).toInt ≤ 39 := by omega
        have p2364 : -1 ≤ (y2360).toInt ∧ (y2360).toInt < R * W := by omega
        have p2365 : (y2360).toInt + 1 < ((n : Nat) : Int) := by (omega)
        exact ih _ _ _ i2349 p2363 p2364 p2365
      · replace c2359 := q_nle c2359
        rw [li_0] at c2359
        refine ⟨fun c2366 => ?_, fun c2367 => ?_⟩
        · replace c2366 := q_le c2366
          rw [li_40] at c2366
          generalize hy2369 : (z3 + (-1)) = y2368
          have e2370 := tq_addr li_m1 z3
          rw [hy2369] at e2370
          try rw [Int.emod_eq_of_lt (show 0 ≤ (z3).toInt + (-1) + 2147483648 by omega) (show (z3).toInt + (-1) + 2147483648 < 4294967296 by omega)] at e2370
          have p2371 : 0 ≤ (z2).toInt ∧ (z2).toInt ≤ 39 := by omega
          have p2372 : -1 ≤ (y2368).toInt ∧ (y2368).toInt < R * W := by omega
          have p2373 : (y2368).toInt + 1 < ((n : Nat) : Int) := by (omega)
          exact ih _ _ _ i2349 p2371 p2372 p2373
        · replace c2367 := q_nle c2367
          rw [li_40] at c2367
          have v2374 : vp_in r_5 40 := vi (by omega) (by omega)
          refine ⟨v2374, ?_⟩
          have v2375 : vp_in z3 40 := vi (by omega) (by omega)
          refine ⟨v2375, ?_⟩
          refine ⟨v2374, ?_⟩
          generalize hy2377 : (z3 + (-1)) = y2376
          have e2378 := tq_addr li_m1 z3
          rw [hy2377] at e2378
          try rw [Int.emod_eq_of_lt (show 0 ≤ (z3).toInt + (-1) + 2147483648 by omega) (show (z3).toInt + (-1) + 2147483648 < 4294967296 by omega)] at e2378
          have p2379 : 0 ≤ (t0.1 0).toInt ∧ (t0.1 0).toInt ≤ 40 := by omega
          have p2380 : ar 40 (-1) (39) (upd (t0.2 0) (Int32.toNatClampNeg r_5) z3) := (ar_upd i2349.2.1 (by omega) (by omega))
          have := ar_at (i2349.2.1) v2374
          have p2381 : ar 40 (-1) (39) (upd (t0.2 1) (Int32.toNatClampNeg z3) (t0.2 0 (Int32.toNatClampNeg r_5))) := (ar_upd i2349.2.2.1 (by omega) (by omega))
          have p2382 : ar 40 (0) (39) (t0.2 2) := i2349.2.2.2
          have B2383 : mo (t0.1, (va_up (va_up t0.2 0 (upd (t0.2 0) (Int32.toNatClampNeg r_5) z3)) 1 (upd (t0.2 1) (Int32.toNatClampNeg z3) (t0.2 0 (Int32.toNatClampNeg r_5))))) := ⟨p2379, p2380, p2381, p2382⟩
          have e2384 := tq_ite (a := z2) (b := r_5) (x := r_5) (y := z2)
          have p2385 : 0 ≤ (if (z2 < r_5) then r_5 else z2).toInt ∧ (if (z2 < r_5) then r_5 else z2).toInt ≤ 39 := by omega
          have p2386 : -1 ≤ (y2376).toInt ∧ (y2376).toInt < R * W := by omega
          have p2387 : (y2376).toInt + 1 < ((n : Nat) : Int) := by (omega)
          exact ih _ _ _ B2383 p2385 p2386 p2387
theorem wq_X2_sortByLeft {post : Int32 → Mo → Prop} {s0 : Mo} {s1 : Bd} {R W : Int} (h2388 : mo s0) (h2389 : bi (R) (W) s1) (k : ∀ (r : Int32) (u : Mo), mo u → 0 ≤ (r).toInt ∧ (r).toInt ≤ 39 → post r u) : wp_X2_sortByLeft post s0 s1 := by
  unfold wp_X2_sortByLeft
  have := h2388.1
  have := h2389.1
  have := h2389.2.1
  have := h2389.2.2.1
  have := h2389.2.2.2.1
  have := h2389.2.2.2.2.2.2.2.2.2
  refine wq_X0_cells h2389 (fun r_2 q2390 => ?_)
  have p2391 : 0 ≤ (s0.1 0).toInt ∧ (s0.1 0).toInt ≤ 40 := by omega
  have p2392 : ar 40 (-1) (39) (fl_f 40 (-1) (s0.2 0)) := (ar_fill h2388.2.1 (by decide) (by decide))
  have p2393 : ar 40 (-1) (39) (s0.2 1) := h2388.2.2.1
  have p2394 : ar 40 (0) (39) (s0.2 2) := h2388.2.2.2
  have B2395 : mo (s0.1, (va_up s0.2 0 (fl_f 40 (-1) (s0.2 0)))) := ⟨p2391, p2392, p2393, p2394⟩
  have p2396 : 0 ≤ (0 : Int32).toInt ∧ (0 : Int32).toInt ≤ 39 := by (have := li_0; omega)
  have e2397 := tq_subr li_1 r_2
  try rw [Int.emod_eq_of_lt (show 0 ≤ (r_2).toInt - 1 + 2147483648 by omega) (show (r_2).toInt - 1 + 2147483648 < 4294967296 by omega)] at e2397
  have p2398 : -1 ≤ (r_2 - 1).toInt ∧ (r_2 - 1).toInt < R * W := by omega
  obtain ⟨f2399, g2400⟩ := fu_e 50
  have p2401 : (r_2 - 1).toInt + 1 < (f2399 : Int) := by (omega)
  refine ⟨f2399, wq_X2_sortByLeft_L17 h2389 (fun t0 z2 z3 q2402 q2403 q2404 => ?_) f2399 _ _ _ B2395 p2396 p2398 p2401⟩
  have := q2402.1
  have p2405 : 0 ≤ (z2).toInt ∧ (z2).toInt ≤ 39 := by omega
  exact k _ _ q2402 p2405
theorem wq_X2_choose_L44 {s1 : Bd} {post : Mo → Prop} {e130 : Mo → Int32 → Int32 → Int32 → Int32 → Prop} {R W Z : Int} (h2406 : bi (R) (W) s1) (ke130 : ∀ (t0 : Mo) (z2 : Int32) (z3 : Int32) (z4 : Int32) (z5 : Int32), mo t0 → 0 ≤ (z5).toInt ∧ (z5).toInt ≤ 40 → -1 ≤ (z4).toInt ∧ (z4).toInt ≤ 39 → (z3).toInt = Z → e130 t0 z2 z3 z4 z5) : ∀ (n : Nat) (t0 : Mo) (z2 : Int32) (z3 : Int32) (z4 : Int32) (z5 : Int32), mo t0 → 0 ≤ (z5).toInt ∧ (z5).toInt ≤ 40 → -1 ≤ (z4).toInt ∧ (z4).toInt ≤ 39 → (z3).toInt = Z → 40 - (z5).toInt < (n : Int) → wp_X2_choose_L44 s1 post e130 n t0 z2 z3 z4 z5 := by
  have := h2406.1
  have := h2406.2.1
  have := h2406.2.2.1
  have := h2406.2.2.2.1
  have := h2406.2.2.2.2.2.2.2.2.2
  intro n
  induction n with
  | zero =>
    intro t0 z2 z3 z4 z5 i2407 i2408 i2409 i2410 i2411
    have := i2407.1
    exfalso
    omega
  | succ n ih =>
    intro t0 z2 z3 z4 z5 i2407 i2408 i2409 i2410 i2411
    unfold wp_X2_choose_L44
    have := i2407.1
    refine ⟨fun c2412 => ?_, fun c2413 => ?_⟩
    · replace c2412 := q_le c2412
      rw [li_40] at c2412
      have p2414 : 0 ≤ (z5).toInt ∧ (z5).toInt ≤ 40 := by omega
      have p2415 : -1 ≤ (z4).toInt ∧ (z4).toInt ≤ 39 := by omega
      have p2416 : (z3).toInt = Z := by omega
      exact ke130 _ _ _ _ _ i2407 p2414 p2415 p2416
    · replace c2413 := q_nle c2413
      rw [li_40] at c2413
      refine ⟨fun c2417 => ?_, fun c2418 => ?_⟩
      · replace c2417 := q_eq c2417
        rw [li_m1] at c2417
        have p2419 : 0 ≤ (z5).toInt ∧ (z5).toInt ≤ 40 := by omega
        have p2420 : -1 ≤ (z4).toInt ∧ (z4).toInt ≤ 39 := by omega
        have p2421 : (z3).toInt = Z := by omega
        exact ke130 _ _ _ _ _ i2407 p2419 p2420 p2421
      · replace c2418 := q_neq c2418
        rw [li_m1] at c2418
        have p2422 : 0 ≤ (z4).toInt ∧ (z4).toInt < 40 := by omega
        refine wq_X0_currentOf h2406 p2422 (fun r_8 => ?_)
        refine ⟨fun c2423 => ?_, fun c2424 => ?_⟩
        · have v2425 : vp_in z4 40 := vi (by omega) (by omega)
          refine ⟨v2425, ?_⟩
          have e2426 := tq_addr li_1 z5
          try rw [Int.emod_eq_of_lt (show 0 ≤ (z5).toInt + 1 + 2147483648 by omega) (show (z5).toInt + 1 + 2147483648 < 4294967296 by omega)] at e2426
          have p2427 : 0 ≤ (z5 + 1).toInt ∧ (z5 + 1).toInt ≤ 40 := by omega
          have := ar_at (i2407.2.2.1) v2425
          have p2428 : -1 ≤ (t0.2 1 (Int32.toNatClampNeg z4)).toInt ∧ (t0.2 1 (Int32.toNatClampNeg z4)).toInt ≤ 39 := by omega
          have p2429 : (z3).toInt = Z := by omega
          have p2430 : 40 - (z5 + 1).toInt < ((n : Nat) : Int) := by (omega)
          exact ih _ _ _ _ _ i2407 p2427 p2428 p2429 p2430
        · refine ⟨fun c2431 => ?_, fun c2432 => ?_⟩
          · replace c2431 := q_le c2431
            rw [li_40] at c2431
            have v2433 : vp_in z4 40 := vi (by omega) (by omega)
            refine ⟨v2433, ?_⟩
            have e2434 := tq_addr li_1 z5
            try rw [Int.emod_eq_of_lt (show 0 ≤ (z5).toInt + 1 + 2147483648 by omega) (show (z5).toInt + 1 + 2147483648 < 4294967296 by omega)] at e2434
            have p2435 : 0 ≤ (z5 + 1).toInt ∧ (z5 + 1).toInt ≤ 40 := by omega
            have := ar_at (i2407.2.2.1) v2433
            have p2436 : -1 ≤ (t0.2 1 (Int32.toNatClampNeg z4)).toInt ∧ (t0.2 1 (Int32.toNatClampNeg z4)).toInt ≤ 39 := by omega
            have p2437 : (z3).toInt = Z := by omega
            have p2438 : 40 - (z5 + 1).toInt < ((n : Nat) : Int) := by (omega)
            exact ih _ _ _ _ _ i2407 p2435 p2436 p2437 p2438
          · replace c2432 := q_nle c2432
            rw [li_40] at c2432
            have v2439 : vp_in (t0.1 0) 40 := vi (by omega) (by omega)
            refine ⟨v2439, ?_⟩
            have v2440 : vp_in z4 40 := vi (by omega) (by omega)
            refine ⟨v2440, ?_⟩
            have e2441 := tq_addr li_1 (t0.1 0)
            try rw [Int.emod_eq_of_lt (show 0 ≤ (t0.1 0).toInt + 1 + 2147483648 by omega) (show (t0.1 0).toInt + 1 + 2147483648 < 4294967296 by omega)] at e2441
            have p2442 : 0 ≤ ((t0.1 0) + 1).toInt ∧ ((t0.1 0) + 1).toInt ≤ 40 := by omega
            have p2443 : ar 40 (-1) (39) (t0.2 0) := i2407.2.1
            have p2444 : ar 40 (-1) (39) (t0.2 1) := i2407.2.2.1
            have p2445 : ar 40 (0) (39) (upd (t0.2 2) (Int32.toNatClampNeg (t0.1 0)) z4) := (ar_upd i2407.2.2.2 (by omega) (by omega))
            have B2446 : mo ((va_up (va_up t0.1 0 ((t0.1 0) + 1)) 1 ((t0.1 1) + r_8)), (va_up t0.2 2 (upd (t0.2 2) (Int32.toNatClampNeg (t0.1 0)) z4))) := ⟨p2442, p2443, p2444, p2445⟩
            have e2447 := tq_addr li_1 z5
            try rw [Int.emod_eq_of_lt (show 0 ≤ (z5).toInt + 1 + 2147483648 by omega) (show (z5).toInt + 1 + 2147483648 < 4294967296 by omega)] at e2447
            have p2448 : 0 ≤ (z5 + 1).toInt ∧ (z5 + 1).toInt ≤ 40 := by omega
            have := ar_at (i2407.2.2.1) v2440
            have p2449 : -1 ≤ (t0.2 1 (Int32.toNatClampNeg z4)).toInt ∧ (t0.2 1 (Int32.toNatClampNeg z4)).toInt ≤ 39 := by omega
            have p2450 : (z3).toInt = Z := by omega
            have p2451 : 40 - (z5 + 1).toInt < ((n : Nat) : Int) := by (omega)
            exact ih _ _ _ _ _ B2446 p2448 p2449 p2450 p2451
theorem wq_X2_choose_L18 {s1 : Bd} {post : Mo → Prop} {e136 : Mo → Int32 → Int32 → Prop} {R W : Int} (h2452 : bi (R) (W) s1) (ke136 : ∀ (t0 : Mo) (z2 : Int32) (z3 : Int32), mo t0 → 0 ≤ (z3).toInt ∧ (z3).toInt ≤ 39 → e136 t0 z2 z3) : ∀ (n : Nat) (t0 : Mo) (z2 : Int32) (z3 : Int32), mo t0 → 0 ≤ (z3).toInt ∧ (z3).toInt ≤ 39 → (z3).toInt < (n : Int) → wp_X2_choose_L18 s1 post e136 n t0 z2 z3 := by
  have := h2452.1
  have := h2452.2.1
  have := h2452.2.2.1
  have := h2452.2.2.2.1
  have := h2452.2.2.2.2.2.2.2.2.2
  intro n
  induction n with
  | zero =>
    intro t0 z2 z3 i2453 i2454 i2455
    have := i2453.1
    exfalso
    omega
  | succ n ih =>
    intro t0 z2 z3 i2453 i2454 i2455
    unfold wp_X2_choose_L18
    have := i2453.1
    refine ⟨fun c2456 => ?_, fun c2457 => ?_⟩
    · replace c2456 := q_le c2456
      rw [li_0] at c2456
      have p2458 : 0 ≤ (z3).toInt ∧ (z3).toInt ≤ 39 := by omega
      exact ke136 _ _ _ i2453 p2458
    · replace c2457 := q_nle c2457
      rw [li_0] at c2457
      refine ⟨fun c2459 => ?_, fun c2460 => ?_⟩
      · replace c2459 := q_le c2459
        have p2461 : 0 ≤ (z3).toInt ∧ (z3).toInt ≤ 39 := by omega
        exact ke136 _ _ _ i2453 p2461
      · replace c2460 := q_nle c2460
        have v2462 : vp_in z3 40 := vi (by omega) (by omega)
        refine ⟨v2462, ?_⟩
        have p2463 : 0 ≤ (0 : Int32).toInt ∧ (0 : Int32).toInt ≤ 40 := by (have := li_0; omega)
        have := ar_at (i2453.2.1) v2462
        have p2464 : -1 ≤ (t0.2 0 (Int32.toNatClampNeg z3)).toInt ∧ (t0.2 0 (Int32.toNatClampNeg z3)).toInt ≤ 39 := by omega
        have p2465 : (z3).toInt = ((z3).toInt) := by omega
        obtain ⟨f2466, g2467⟩ := fu_e 50
        have p2468 : 40 - (0 : Int32).toInt < (f2466 : Int) := by (have := li_0; omega)
        refine ⟨f2466, wq_X2_choose_L44 h2452 (fun t0_2469 z2_2470 z3_2471 z4 z5 q2472 q2473 q2474 q2475 => ?_) f2466 _ _ _ _ _ i2453 p2463 p2464 p2465 p2468⟩
        have := q2472.1
        generalize hy2477 : (z3_2471 + (-1)) = y2476
        have e2478 := tq_addr li_m1 z3_2471
        rw [hy2477] at e2478
        try rw [Int.emod_eq_of_lt (show 0 ≤ (z3_2471).toInt + (-1) + 2147483648 by omega) (show (z3_2471).toInt + (-1) + 2147483648 < 4294967296 by omega)] at e2478
        have p2479 : 0 ≤ (y2476).toInt ∧ (y2476).toInt ≤ 39 := by omega
        have p2480 : (y2476).toInt < ((n : Nat) : Int) := by (omega)
        exact ih _ _ _ q2472 p2479 p2480
theorem wq_X2_choose {post : Mo → Prop} {s0 : Mo} {s1 : Bd} {R W : Int} (h2481 : mo s0) (h2482 : bi (R) (W) s1) (k : ∀ (u : Mo), mo u → post u) : wp_X2_choose post s0 s1 := by
  unfold wp_X2_choose
  have := h2481.1
  have := h2482.1
  have := h2482.2.1
  have := h2482.2.2.1
  have := h2482.2.2.2.1
  have := h2482.2.2.2.2.2.2.2.2.2
  have p2483 : 0 ≤ (0 : Int32).toInt ∧ (0 : Int32).toInt ≤ 40 := by (have := li_0; omega)
  have p2484 : ar 40 (-1) (39) (s0.2 0) := h2481.2.1
  have p2485 : ar 40 (-1) (39) (s0.2 1) := h2481.2.2.1
  have p2486 : ar 40 (0) (39) (s0.2 2) := h2481.2.2.2
  have B2487 : mo ((va_up (va_up s0.1 0 0) 1 0), s0.2) := ⟨p2483, p2484, p2485, p2486⟩
  refine wq_X2_sortByLeft B2487 h2482 (fun r_1 u_2 q2488 q2489 => ?_)
  have := q2488.1
  replace q2489 : 0 ≤ (r_1).toInt ∧ (r_1).toInt ≤ 39 := q2489
  have p2490 : 0 ≤ (r_1).toInt ∧ (r_1).toInt ≤ 39 := by omega
  obtain ⟨f2491, g2492⟩ := fu_e 50
  have p2493 : (r_1).toInt < (f2491 : Int) := by (omega)
  refine ⟨f2491, wq_X2_choose_L18 h2482 (fun t0 z2 z3 q2494 q2495 => ?_) f2491 _ _ _ q2488 p2490 p2493⟩
  have := q2494.1
  exact k _ q2494
theorem wq_X2_countTick {post : Mo → Prop} {s0 : Mo} {x1 : Int32} (h2496 : mo s0) (k : ∀ (u : Mo), mo u → post u) : wp_X2_countTick post s0 x1 := by
  unfold wp_X2_countTick
  have := h2496.1
  refine ⟨fun c2497 => ?_, fun c2498 => ?_⟩
  · replace c2497 := q_le c2497
    have p2499 : 0 ≤ (s0.1 0).toInt ∧ (s0.1 0).toInt ≤ 40 := by omega
    have p2500 : ar 40 (-1) (39) (s0.2 0) := h2496.2.1
    have p2501 : ar 40 (-1) (39) (s0.2 1) := h2496.2.2.1
    have p2502 : ar 40 (0) (39) (s0.2 2) := h2496.2.2.2
    have B2503 : mo ((va_up (va_up (va_up (va_up s0.1 2 ((s0.1 2) + 1)) 3 ((s0.1 3) + (s0.1 0))) 4 ((s0.1 4) + x1)) 5 (if ((s0.1 5) < (s0.1 1)) then (s0.1 1) else (s0.1 5))), s0.2) := ⟨p2499, p2500, p2501, p2502⟩
    exact k _ B2503
  · replace c2498 := q_nle c2498
    have p2504 : 0 ≤ (s0.1 0).toInt ∧ (s0.1 0).toInt ≤ 40 := by omega
    have p2505 : ar 40 (-1) (39) (s0.2 0) := h2496.2.1
    have p2506 : ar 40 (-1) (39) (s0.2 1) := h2496.2.2.1
    have p2507 : ar 40 (0) (39) (s0.2 2) := h2496.2.2.2
    have B2508 : mo ((va_up (va_up (va_up (va_up (va_up (va_up s0.1 2 ((s0.1 2) + 1)) 3 ((s0.1 3) + (s0.1 0))) 4 ((s0.1 4) + x1)) 5 (if ((s0.1 5) < (s0.1 1)) then (s0.1 1) else (s0.1 5))) 6 (s0.1 2)) 7 x1), s0.2) := ⟨p2504, p2505, p2506, p2507⟩
    exact k _ B2508
theorem wq_X2_turn_L27 {post : Mo → Bd → Prop} {e62 : Mo → Bd → Int32 → Int32 → Int32 → Prop} {R W Z Y : Int} (ke62 : ∀ (t0 : Mo) (t1 : Bd) (z2 : Int32) (z3 : Int32) (z4 : Int32), mo t0 → bi (R) (W) t1 → 0 ≤ (z4).toInt ∧ (z4).toInt ≤ (t0.1 0).toInt → (z3).toInt = Z → (z2).toInt = Y → e62 t0 t1 z2 z3 z4) : ∀ (n : Nat) (t0 : Mo) (t1 : Bd) (z2 : Int32) (z3 : Int32) (z4 : Int32), mo t0 → bi (R) (W) t1 → 0 ≤ (z4).toInt ∧ (z4).toInt ≤ (t0.1 0).toInt → (z3).toInt = Z → (z2).toInt = Y → (t0.1 0).toInt - (z4).toInt < (n : Int) → wp_X2_turn_L27 post e62 n t0 t1 z2 z3 z4 := by
  intro n
  induction n with
  | zero =>
    intro t0 t1 z2 z3 z4 i2509 i2510 i2511 i2512 i2513 i2514
    have := i2509.1
    have := i2510.1
    have := i2510.2.1
    have := i2510.2.2.1
    have := i2510.2.2.2.1
    have := i2510.2.2.2.2.2.2.2.2.2
    exfalso
    omega
  | succ n ih =>
    intro t0 t1 z2 z3 z4 i2509 i2510 i2511 i2512 i2513 i2514
    unfold wp_X2_turn_L27
    have := i2509.1
    have := i2510.1
    have := i2510.2.1
    have := i2510.2.2.1
    have := i2510.2.2.2.1
    have := i2510.2.2.2.2.2.2.2.2.2
    refine ⟨fun c2515 => ?_, fun c2516 => ?_⟩
    · replace c2515 := q_le c2515
      have p2517 : 0 ≤ (z4).toInt ∧ (z4).toInt ≤ (t0.1 0).toInt := by omega
      have p2518 : (z3).toInt = Z := by omega
      have p2519 : (z2).toInt = Y := by omega
      exact ke62 _ _ _ _ _ i2509 i2510 p2517 p2518 p2519
    · replace c2516 := q_nle c2516
      have v2520 : vp_in z4 40 := vi (by omega) (by omega)
      refine ⟨v2520, ?_⟩
      have := ar_at (i2509.2.2.2) v2520
      have p2521 : 0 ≤ (t0.2 2 (Int32.toNatClampNeg z4)).toInt ∧ (t0.2 2 (Int32.toNatClampNeg z4)).toInt < 40 := by omega
      refine wq_X0_stepOn i2510 p2521 (fun r_9 u_10 q2522 => ?_)
      have := q2522.1
      have := q2522.2.1
      have := q2522.2.2.1
      have := q2522.2.2.2.2.2.2.2.2.2
      have p2523 : 0 ≤ (t0.1 0).toInt ∧ (t0.1 0).toInt ≤ 40 := by omega
      have p2524 : ar 40 (-1) (39) (t0.2 0) := i2509.2.1
      have p2525 : ar 40 (-1) (39) (t0.2 1) := i2509.2.2.1
      have p2526 : ar 40 (0) (39) (t0.2 2) := i2509.2.2.2
      have B2527 : mo ((va_up t0.1 8 ((t0.1 8) + r_9)), t0.2) := ⟨p2523, p2524, p2525, p2526⟩
      have e2528 := tq_addr li_1 z4
      try rw [Int.emod_eq_of_lt (show 0 ≤ (z4).toInt + 1 + 2147483648 by omega) (show (z4).toInt + 1 + 2147483648 < 4294967296 by omega)] at e2528
      have p2529 : 0 ≤ (z4 + 1).toInt ∧ (z4 + 1).toInt ≤ (t0.1 0).toInt := by omega
      have p2530 : (z3).toInt = Z := by omega
      have p2531 : (z2).toInt = Y := by omega
      have p2532 : (t0.1 0).toInt - (z4 + 1).toInt < ((n : Nat) : Int) := by (omega)
      exact ih _ _ _ _ _ B2527 q2522 p2529 p2530 p2531 p2532
theorem wq_X2_turn_L6 {post : Mo → Bd → Prop} {e109 : Mo → Bd → Int32 → Int32 → Prop} {R W : Int} (ke109 : ∀ (t0 : Mo) (t1 : Bd) (z2 : Int32) (z3 : Int32), mo t0 → bi (R) (W) t1 → 0 ≤ (z3).toInt ∧ (z3).toInt ≤ (z2).toInt ∧ (z2).toInt ≤ 9999 → e109 t0 t1 z2 z3) (k : ∀ (ua : Mo) (ub : Bd), mo ua → bi (R) (W) ub → post ua ub) : ∀ (n : Nat) (t0 : Mo) (t1 : Bd) (z2 : Int32) (z3 : Int32), mo t0 → bi (R) (W) t1 → 0 ≤ (z3).toInt ∧ (z3).toInt ≤ (z2).toInt ∧ (z2).toInt ≤ 9999 → (z2).toInt - (z3).toInt < (n : Int) → wp_X2_turn_L6 post e109 n t0 t1 z2 z3 := by
  intro n
  induction n with
  | zero =>
    intro t0 t1 z2 z3 i2533 i2534 i2535 i2536
    have := i2533.1
    have := i2534.1
    have := i2534.2.1
    have := i2534.2.2.1
    have := i2534.2.2.2.1
    have := i2534.2.2.2.2.2.2.2.2.2
    exfalso
    omega
  | succ n ih =>
    intro t0 t1 z2 z3 i2533 i2534 i2535 i2536
    unfold wp_X2_turn_L6
    have := i2533.1
    have := i2534.1
    have := i2534.2.1
    have := i2534.2.2.1
    have := i2534.2.2.2.1
    have := i2534.2.2.2.2.2.2.2.2.2
    refine ⟨fun c2537 => ?_, fun c2538 => ?_⟩
    · replace c2537 := q_le c2537
      have p2539 : 0 ≤ (z3).toInt ∧ (z3).toInt ≤ (z2).toInt ∧ (z2).toInt ≤ 9999 := by omega
      exact ke109 _ _ _ _ i2533 i2534 p2539
    · replace c2538 := q_nle c2538
      refine wq_X2_choose i2533 i2534 (fun u_5 q2540 => ?_)
      have := q2540.1
      refine ⟨fun c2541 => ?_, fun c2542 => ?_⟩
      · replace c2541 := q_neq c2541
        rw [li_0] at c2541
        have p2543 : 0 ≤ (0 : Int32).toInt ∧ (0 : Int32).toInt ≤ (u_5.1 0).toInt := by (have := li_0; omega)
        have p2544 : (z3).toInt = ((z3).toInt) := by omega
        have p2545 : (z2).toInt = ((z2).toInt) := by omega
        obtain ⟨f2546, g2547⟩ := fu_e 50
        have p2548 : (u_5.1 0).toInt - (0 : Int32).toInt < (f2546 : Int) := by (have := li_0; omega)
        refine ⟨f2546, wq_X2_turn_L27 (fun t0_2549 t1_2550 z2_2551 z3_2552 z4 q2553 q2554 q2555 q2556 q2557 => ?_) f2546 _ _ _ _ _ q2540 i2534 p2543 p2544 p2545 p2548⟩
        have := q2553.1
        have := q2554.1
        have := q2554.2.1
        have := q2554.2.2.1
        have := q2554.2.2.2.2.2.2.2.2.2
        refine wq_X2_countTick q2553 (fun u_12 q2558 => ?_)
        have := q2558.1
        have p2559 : (t1_2550.1 0).toInt = R := by omega
        have p2560 : (t1_2550.1 1).toInt = W := by omega
        have p2561 : 0 ≤ (t1_2550.1 3).toInt ∧ (t1_2550.1 3).toInt ≤ 4 := by omega
        have p2562 : 0 ≤ R ∧ R ≤ 6 ∧ 0 ≤ W ∧ W ≤ 10 ∧ 0 ≤ R * W ∧ R * W ≤ 40 := by omega
        have p2563 : ar 4 (0) (40) (t1_2550.2.1 1) := q2554.2.2.2.2.1
        have p2564 : ar 40 (0) (3) (t1_2550.2.1 3) := q2554.2.2.2.2.2.1
        have p2565 : ar 40 (0) (39) (t1_2550.2.1 4) := q2554.2.2.2.2.2.2.1
        have p2566 : ar 40 (0) (39) (t1_2550.2.1 5) := q2554.2.2.2.2.2.2.2.1
        have p2567 : ar 40 (0) (39) (t1_2550.2.1 6) := q2554.2.2.2.2.2.2.2.2.1
        have p2568 : t1_2550.2.2.2.1 ≤ 6400 := by omega
        have B2569 : bi (R) (W) ((va_up (va_up t1_2550.1 4 ((t1_2550.1 4) + ((t0_2549.1 0) * (t0_2549.1 0)))) 5 ((t1_2550.1 5) + 1)), t1_2550.2.1, t1_2550.2.2.1, t1_2550.2.2.2.1, t1_2550.2.2.2.2) := ⟨p2559, p2560, p2561, p2562, p2563, p2564, p2565, p2566, p2567, p2568⟩
        have e2570 := tq_addr li_1 z3_2552
        try rw [Int.emod_eq_of_lt (show 0 ≤ (z3_2552).toInt + 1 + 2147483648 by omega) (show (z3_2552).toInt + 1 + 2147483648 < 4294967296 by omega)] at e2570
        have p2571 : 0 ≤ (z3_2552 + 1).toInt ∧ (z3_2552 + 1).toInt ≤ (z2_2551).toInt ∧ (z2_2551).toInt ≤ 9999 := by omega
        have p2572 : (z2_2551).toInt - (z3_2552 + 1).toInt < ((n : Nat) : Int) := by (omega)
        exact ih _ _ _ _ q2558 B2569 p2571 p2572
      · replace c2542 := q_eq c2542
        rw [li_0] at c2542
        exact k _ _ q2540 i2534
theorem wq_X2_turn {post : Mo → Bd → Prop} {s0 : Mo} {s1 : Bd} {x2 : Int32} {R W : Int} (h2573 : mo s0) (h2574 : bi (R) (W) s1) (h2575 : 0 ≤ (x2).toInt ∧ (x2).toInt ≤ 9999) (k : ∀ (ua : Mo) (ub : Bd), mo ua → bi (R) (W) ub → post ua ub) : wp_X2_turn post s0 s1 x2 := by
  unfold wp_X2_turn
  have := h2573.1
  have := h2574.1
  have := h2574.2.1
  have := h2574.2.2.1
  have := h2574.2.2.2.1
  have := h2574.2.2.2.2.2.2.2.2.2
  refine wq_X2_startCounting h2573 (fun u_2 q2576 => ?_)
  have := q2576.1
  have p2577 : 0 ≤ (0 : Int32).toInt ∧ (0 : Int32).toInt ≤ (x2).toInt ∧ (x2).toInt ≤ 9999 := by (have := li_0; omega)
  obtain ⟨f2578, g2579⟩ := fu_e 10000
  have p2580 : (x2).toInt - (0 : Int32).toInt < (f2578 : Int) := by (have := li_0; omega)
  refine ⟨f2578, wq_X2_turn_L6 (fun t0 t1 z2 z3 q2581 q2582 q2583 => ?_) k f2578 _ _ _ _ q2576 h2574 p2577 p2580⟩
  have := q2581.1
  have := q2582.1
  have := q2582.2.1
  have := q2582.2.2.1
  have := q2582.2.2.2.2.2.2.2.2.2
  exact k _ _ q2581 q2582
