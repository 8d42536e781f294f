theorem wq_X6_doProgram_L9 {s1 : Tp} {post : Int32 → Bd → Mo → Pg → Prop} {e59 : Bd → Mo → Pg → Int32 → Prop} {N R W : Int} (h3274 : tz (N) s1) (h3275 : 1 ≤ R) (ke59 : ∀ (t2 : Bd) (t3 : Mo) (t4 : Pg) (z1 : Int32), bi (R) (W) t2 → mo t3 → pg (R) t4 → 0 ≤ (z1).toInt ∧ (z1).toInt ≤ 200 → e59 t2 t3 t4 z1) (k : ∀ (r : Int32) (ua : Bd) (ub : Mo) (uc : Pg), bi (R) (W) ua → mo ub → pg (R) uc → post r ua ub uc) : ∀ (n : Nat) (t2 : Bd) (t3 : Mo) (t4 : Pg) (z1 : Int32), bi (R) (W) t2 → mo t3 → pg (R) t4 → 0 ≤ (z1).toInt ∧ (z1).toInt ≤ 200 → 200 - (z1).toInt < (n : Int) → wp_X6_doProgram_L9 s1 post e59 n t2 t3 t4 z1 := by
  have := h3274.1
  have := h3274.2
  intro n
  induction n with
  | zero =>
    intro t2 t3 t4 z1 i3276 i3277 i3278 i3279 i3280
    have := i3276.1
    have := i3276.2.1
    have := i3276.2.2.1
    have := i3276.2.2.2.1
    have := i3276.2.2.2.2.2.2.2.2.2
    have := i3277.1
    have := i3278.1
    exfalso
    omega
  | succ n ih =>
    intro t2 t3 t4 z1 i3276 i3277 i3278 i3279 i3280
    unfold wp_X6_doProgram_L9
    have := i3276.1
    have := i3276.2.1
    have := i3276.2.2.1
    have := i3276.2.2.2.1
    have := i3276.2.2.2.2.2.2.2.2.2
    have := i3277.1
    have := i3278.1
    refine ⟨fun c3281 => ?_, fun c3282 => ?_⟩
    · replace c3281 := q_le c3281
      rw [li_200] at c3281
      have p3283 : 0 ≤ (z1).toInt ∧ (z1).toInt ≤ 200 := by omega
      exact ke59 _ _ _ _ i3276 i3277 i3278 p3283
    · replace c3282 := q_nle c3282
      rw [li_200] at c3282
      refine wq_X4_hasStep i3278 (fun r_4 q3284 => ?_)
      refine ⟨fun c3285 => ?_, fun c3286 => ?_⟩
      · replace c3285 := q_neq c3285
        rw [li_0] at c3285
        have p3287 : 1 ≤ R := by omega
        refine wq_X6_doStep h3274 i3276 i3277 i3278 p3287 (fun u_8a u_8b q3288 q3289 => ?_)
        have := q3288.1
        have := q3288.2.1
        have := q3288.2.2.1
        have := q3288.2.2.2.2.2.2.2.2.2
        have := q3289.1
        refine wq_X4_goOn i3278 (fun u_10 q3290 => ?_)
        have := q3290.1
        have e3291 := tq_addr li_1 z1
        try rw [Int.emod_eq_of_lt (show 0 ≤ (z1).toInt + 1 + 2147483648 by omega) (show (z1).toInt + 1 + 2147483648 < 4294967296 by omega)] at e3291
        have p3292 : 0 ≤ (z1 + 1).toInt ∧ (z1 + 1).toInt ≤ 200 := by omega
        have p3293 : 200 - (z1 + 1).toInt < ((n : Nat) : Int) := by (omega)
        exact ih _ _ _ _ q3288 q3289 q3290 p3292 p3293
      · replace c3286 := q_eq c3286
        rw [li_0] at c3286
        exact k _ _ _ _ i3276 i3277 i3278
theorem wq_X6_doProgram {post : Int32 → Bd → Mo → Pg → Prop} {s1 : Tp} {s2 : Bd} {s4 : Mo} {s5 : Pg} {N R W : Int} (h3294 : tz (N) s1) (h3295 : bi (R) (W) s2) (h3296 : mo s4) (h3297 : pg (R) s5) (h3298 : 1 ≤ R) (k : ∀ (r : Int32) (ua : Bd) (ub : Mo) (uc : Pg), bi (R) (W) ua → mo ub → pg (R) uc → post r ua ub uc) : wp_X6_doProgram post s1 s2 s4 s5 := by
  unfold wp_X6_doProgram
  have := h3294.1
  have := h3294.2
  have := h3295.1
  have := h3295.2.1
  have := h3295.2.2.1
  have := h3295.2.2.2.1
  have := h3295.2.2.2.2.2.2.2.2.2
  have := h3296.1
  have := h3297.1
  refine wq_X4_startDoing h3297 (fun u_2 q3299 => ?_)
  have := q3299.1
  have p3300 : 1 ≤ R := by omega
  have p3301 : 0 ≤ (0 : Int32).toInt ∧ (0 : Int32).toInt ≤ 200 := by (have := li_0; omega)
  obtain ⟨f3302, g3303⟩ := fu_e 300
  have p3304 : 200 - (0 : Int32).toInt < (f3302 : Int) := by (have := li_0; omega)
  refine ⟨f3302, wq_X6_doProgram_L9 h3294 p3300 (fun t2 t3 t4 z1 q3305 q3306 q3307 q3308 => ?_) k f3302 _ _ _ _ h3295 h3296 q3299 p3301 p3304⟩
  have := q3305.1
  have := q3305.2.1
  have := q3305.2.2.1
  have := q3305.2.2.2.2.2.2.2.2.2
  have := q3306.1
  have := q3307.1
  exact k _ _ _ _ q3305 q3306 q3307
theorem wq_X6_isShelf {post : Int32 → Prop} {x0 : Int32} (k : ∀ (r : Int32), ((r).toInt = 1 ∧ 0 ≤ (x0).toInt ∧ (x0).toInt < 2) ∨ ((r).toInt = 0 ∧ ((x0).toInt < 0 ∨ 2 ≤ (x0).toInt)) → post r) : wp_X6_isShelf post x0 := by
  unfold wp_X6_isShelf
  refine ⟨fun c3309 => ?_, fun c3310 => ?_⟩
  · replace c3309 := q_lt c3309
    rw [li_0] at c3309
    have p3311 : ((0 : Int32).toInt = 1 ∧ 0 ≤ (x0).toInt ∧ (x0).toInt < 2) ∨ ((0 : Int32).toInt = 0 ∧ ((x0).toInt < 0 ∨ 2 ≤ (x0).toInt)) := by (have := li_0; omega)
    exact k _ p3311
  · replace c3310 := q_nlt c3310
    rw [li_0] at c3310
    refine ⟨fun c3312 => ?_, fun c3313 => ?_⟩
    · replace c3312 := q_le c3312
      rw [li_2] at c3312
      have p3314 : ((0 : Int32).toInt = 1 ∧ 0 ≤ (x0).toInt ∧ (x0).toInt < 2) ∨ ((0 : Int32).toInt = 0 ∧ ((x0).toInt < 0 ∨ 2 ≤ (x0).toInt)) := by (have := li_0; omega)
      exact k _ p3314
    · replace c3313 := q_nle c3313
      rw [li_2] at c3313
      have p3315 : ((1 : Int32).toInt = 1 ∧ 0 ≤ (x0).toInt ∧ (x0).toInt < 2) ∨ ((1 : Int32).toInt = 0 ∧ ((x0).toInt < 0 ∨ 2 ≤ (x0).toInt)) := by (have := li_1; omega)
      exact k _ p3315
theorem wq_X6_cell {post : Int32 → Prop} {s2 : Bd} {x1 : Int32} {x2 : Int32} {R W : Int} (h3316 : bi (R) (W) s2) (k : ∀ (r : Int32), post r) : wp_X6_cell post s2 x1 x2 := by
  unfold wp_X6_cell
  have := h3316.1
  have := h3316.2.1
  have := h3316.2.2.1
  have := h3316.2.2.2.1
  have := h3316.2.2.2.2.2.2.2.2.2
  refine wq_X0_hasCell h3316 (fun r_1 q3317 => ?_)
  refine ⟨fun c3318 => ?_, fun c3319 => ?_⟩
  · replace c3318 := q_neq c3318
    rw [li_0] at c3318
    refine ⟨fun c3320 => ?_, fun c3321 => ?_⟩
    · replace c3320 := q_eq c3320
      rw [li_0] at c3320
      have v3322 : vp_in x1 40 := vi (by omega) (by omega)
      refine ⟨v3322, ?_⟩
      exact k _
    · replace c3321 := q_neq c3321
      rw [li_0] at c3321
      refine ⟨fun c3323 => ?_, fun c3324 => ?_⟩
      · replace c3323 := q_eq c3323
        rw [li_1] at c3323
        have v3325 : vp_in x1 40 := vi (by omega) (by omega)
        refine ⟨v3325, ?_⟩
        exact k _
      · replace c3324 := q_neq c3324
        rw [li_1] at c3324
        refine ⟨fun c3326 => ?_, fun c3327 => ?_⟩
        · replace c3326 := q_eq c3326
          rw [li_2] at c3326
          have v3328 : vp_in x1 40 := vi (by omega) (by omega)
          refine ⟨v3328, ?_⟩
          exact k _
        · replace c3327 := q_neq c3327
          rw [li_2] at c3327
          refine ⟨fun c3329 => ?_, fun c3330 => ?_⟩
          · replace c3329 := q_eq c3329
            rw [li_3] at c3329
            have v3331 : vp_in x1 40 := vi (by omega) (by omega)
            refine ⟨v3331, ?_⟩
            exact k _
          · replace c3330 := q_neq c3330
            rw [li_3] at c3330
            refine ⟨fun c3332 => ?_, fun c3333 => ?_⟩
            · replace c3332 := q_eq c3332
              rw [li_4] at c3332
              have p3334 : 0 ≤ (x1).toInt ∧ (x1).toInt < 40 := by omega
              refine wq_X0_leftOf h3316 p3334 (fun r_13 => ?_)
              exact k _
            · replace c3333 := q_neq c3333
              rw [li_4] at c3333
              refine ⟨fun c3335 => ?_, fun c3336 => ?_⟩
              · replace c3335 := q_eq c3335
                rw [li_5] at c3335
                have v3337 : vp_in x1 40 := vi (by omega) (by omega)
                refine ⟨v3337, ?_⟩
                exact k _
              · replace c3336 := q_neq c3336
                rw [li_5] at c3336
                refine ⟨fun c3338 => ?_, fun c3339 => ?_⟩
                · replace c3338 := q_eq c3338
                  rw [li_6] at c3338
                  have v3340 : vp_in x1 40 := vi (by omega) (by omega)
                  refine ⟨v3340, ?_⟩
                  exact k _
                · replace c3339 := q_neq c3339
                  rw [li_6] at c3339
                  refine ⟨fun c3341 => ?_, fun c3342 => ?_⟩
                  · replace c3341 := q_eq c3341
                    rw [li_7] at c3341
                    have v3343 : vp_in x1 40 := vi (by omega) (by omega)
                    refine ⟨v3343, ?_⟩
                    exact k _
                  · replace c3342 := q_neq c3342
                    rw [li_7] at c3342
                    refine ⟨fun c3344 => ?_, fun c3345 => ?_⟩
                    · replace c3344 := q_eq c3344
                      rw [li_8] at c3344
                      have p3346 : 0 ≤ (x1).toInt ∧ (x1).toInt < 40 := by omega
                      refine wq_X0_wornCount h3316 p3346 (fun r_22 => ?_)
                      exact k _
                    · replace c3345 := q_neq c3345
                      rw [li_8] at c3345
                      exact k _
  · replace c3319 := q_eq c3319
    rw [li_0] at c3319
    exact k _
theorem wq_X6_worn {post : Int64 → Prop} {s2 : Bd} {x1 : Int32} {R W : Int} (h3347 : bi (R) (W) s2) (k : ∀ (r : Int64), post r) : wp_X6_worn post s2 x1 := by
  unfold wp_X6_worn
  have := h3347.1
  have := h3347.2.1
  have := h3347.2.2.1
  have := h3347.2.2.2.1
  have := h3347.2.2.2.2.2.2.2.2.2
  refine wq_X0_hasCell h3347 (fun r_1 q3348 => ?_)
  refine ⟨fun c3349 => ?_, fun c3350 => ?_⟩
  · replace c3349 := q_eq c3349
    rw [li_0] at c3349
    exact k _
  · replace c3350 := q_neq c3350
    rw [li_0] at c3350
    have v3351 : vp_in x1 40 := vi (by omega) (by omega)
    refine ⟨v3351, ?_⟩
    exact k _
theorem wq_X6_drum {post : Int32 → Prop} {s2 : Bd} {x1 : Int32} {x2 : Int32} {R W : Int} (h3352 : bi (R) (W) s2) (k : ∀ (r : Int32), post r) : wp_X6_drum post s2 x1 x2 := by
  unfold wp_X6_drum
  have := h3352.1
  have := h3352.2.1
  have := h3352.2.2.1
  have := h3352.2.2.2.1
  have := h3352.2.2.2.2.2.2.2.2.2
  refine wq_X0_hasDrum h3352 (fun r_1 q3353 => ?_)
  refine ⟨fun c3354 => ?_, fun c3355 => ?_⟩
  · replace c3354 := q_neq c3354
    rw [li_0] at c3354
    refine ⟨fun c3356 => ?_, fun c3357 => ?_⟩
    · replace c3356 := q_eq c3356
      rw [li_0] at c3356
      have v3358 : vp_in x1 4 := vi (by omega) (by omega)
      refine ⟨v3358, ?_⟩
      exact k _
    · replace c3357 := q_neq c3357
      rw [li_0] at c3357
      refine ⟨fun c3359 => ?_, fun c3360 => ?_⟩
      · replace c3359 := q_eq c3359
        rw [li_1] at c3359
        refine wq_X0_flapsOn h3352 (fun r_7 q3361 q3362 => ?_)
        exact k _
      · replace c3360 := q_neq c3360
        rw [li_1] at c3360
        refine ⟨fun c3363 => ?_, fun c3364 => ?_⟩
        · replace c3363 := q_eq c3363
          rw [li_2] at c3363
          refine wq_X0_cellsWith h3352 (fun r_10 => ?_)
          exact k _
        · replace c3364 := q_neq c3364
          rw [li_2] at c3364
          refine ⟨fun c3365 => ?_, fun c3366 => ?_⟩
          · replace c3365 := q_eq c3365
            rw [li_3] at c3365
            refine wq_X0_unlikeSigns h3352 (fun r_13 => ?_)
            exact k _
          · replace c3366 := q_neq c3366
            rw [li_3] at c3366
            refine ⟨fun c3367 => ?_, fun c3368 => ?_⟩
            · replace c3367 := q_eq c3367
              rw [li_4] at c3367
              refine wq_X0_mostOfOneSign h3352 (fun r_16 => ?_)
              exact k _
            · replace c3368 := q_neq c3368
              rw [li_4] at c3368
              exact k _
  · replace c3355 := q_eq c3355
    rw [li_0] at c3355
    exact k _
theorem wq_X6_sign {post : Int32 → Prop} {s2 : Bd} {x1 : Int32} {x2 : Int32} {R W : Int} (h3369 : bi (R) (W) s2) (k : ∀ (r : Int32), post r) : wp_X6_sign post s2 x1 x2 := by
  unfold wp_X6_sign
  have := h3369.1
  have := h3369.2.1
  have := h3369.2.2.1
  have := h3369.2.2.2.1
  have := h3369.2.2.2.2.2.2.2.2.2
  refine wq_X0_signOf h3369 (fun r_1 => ?_)
  exact k _
theorem wq_X6_at {post : Int32 → Prop} {s2 : Bd} {x1 : Int32} {x2 : Int32} {x3 : Int32} {R W : Int} (h3370 : bi (R) (W) s2) (k : ∀ (r : Int32), post r) : wp_X6_at post s2 x1 x2 x3 := by
  unfold wp_X6_at
  have := h3370.1
  have := h3370.2.1
  have := h3370.2.2.1
  have := h3370.2.2.2.1
  have := h3370.2.2.2.2.2.2.2.2.2
  refine wq_X0_hasRow h3370 (fun r_1 q3371 => ?_)
  refine ⟨fun c3372 => ?_, fun c3373 => ?_⟩
  · replace c3372 := q_eq c3372
    rw [li_0] at c3372
    exact k _
  · replace c3373 := q_neq c3373
    rw [li_0] at c3373
    refine ⟨fun c3374 => ?_, fun c3375 => ?_⟩
    · replace c3374 := q_lt c3374
      rw [li_0] at c3374
      exact k _
    · replace c3375 := q_nlt c3375
      rw [li_0] at c3375
      refine ⟨fun c3376 => ?_, fun c3377 => ?_⟩
      · replace c3376 := q_lt c3376
        refine ⟨fun c3378 => ?_, fun c3379 => ?_⟩
        · replace c3378 := q_eq c3378
          rw [li_0] at c3378
          have := rw_l (a := x1) (b := (s2.1 1)) (R := R) (W := W) (by omega) (by omega) (by omega)
          have e3380 := tq_add (x1 * (s2.1 1)) x2
          try rw [Int.emod_eq_of_lt (show 0 ≤ (x1 * (s2.1 1)).toInt + (x2).toInt + 2147483648 by omega) (show (x1 * (s2.1 1)).toInt + (x2).toInt + 2147483648 < 4294967296 by omega)] at e3380
          have v3381 : vp_in ((x1 * (s2.1 1)) + x2) 40 := vi (by omega) (by omega)
          refine ⟨v3381, ?_⟩
          have p3382 : 0 ≤ ((x1 * (s2.1 1)) + x2).toInt ∧ ((x1 * (s2.1 1)) + x2).toInt < 40 := by omega
          refine wq_X0_signOn h3370 p3382 (fun r_8 => ?_)
          exact k _
        · replace c3379 := q_neq c3379
          rw [li_0] at c3379
          refine ⟨fun c3383 => ?_, fun c3384 => ?_⟩
          · replace c3383 := q_eq c3383
            rw [li_1] at c3383
            have := rw_l (a := x1) (b := (s2.1 1)) (R := R) (W := W) (by omega) (by omega) (by omega)
            have e3385 := tq_add (x1 * (s2.1 1)) x2
            try rw [Int.emod_eq_of_lt (show 0 ≤ (x1 * (s2.1 1)).toInt + (x2).toInt + 2147483648 by omega) (show (x1 * (s2.1 1)).toInt + (x2).toInt + 2147483648 < 4294967296 by omega)] at e3385
            have v3386 : vp_in ((x1 * (s2.1 1)) + x2) 40 := vi (by omega) (by omega)
            refine ⟨v3386, ?_⟩
            have p3387 : 0 ≤ ((x1 * (s2.1 1)) + x2).toInt ∧ ((x1 * (s2.1 1)) + x2).toInt < 40 := by omega
            refine wq_X0_signOn h3370 p3387 (fun r_12 => ?_)
            exact k _
          · replace c3384 := q_neq c3384
            rw [li_1] at c3384
            refine ⟨fun c3388 => ?_, fun c3389 => ?_⟩
            · replace c3388 := q_eq c3388
              rw [li_2] at c3388
              have := rw_l (a := x1) (b := (s2.1 1)) (R := R) (W := W) (by omega) (by omega) (by omega)
              have e3390 := tq_add (x1 * (s2.1 1)) x2
              try rw [Int.emod_eq_of_lt (show 0 ≤ (x1 * (s2.1 1)).toInt + (x2).toInt + 2147483648 by omega) (show (x1 * (s2.1 1)).toInt + (x2).toInt + 2147483648 < 4294967296 by omega)] at e3390
              have v3391 : vp_in ((x1 * (s2.1 1)) + x2) 40 := vi (by omega) (by omega)
              refine ⟨v3391, ?_⟩
              have p3392 : 0 ≤ ((x1 * (s2.1 1)) + x2).toInt ∧ ((x1 * (s2.1 1)) + x2).toInt < 40 := by omega
              refine wq_X0_signOn h3370 p3392 (fun r_16 => ?_)
              exact k _
            · replace c3389 := q_neq c3389
              rw [li_2] at c3389
              exact k _
      · replace c3377 := q_nlt c3377
        exact k _
theorem wq_X6_leastTicks {post : Int32 → Prop} {s2 : Bd} {R W : Int} (h3393 : bi (R) (W) s2) (k : ∀ (r : Int32), post r) : wp_X6_leastTicks post s2 := by
  unfold wp_X6_leastTicks
  have := h3393.1
  have := h3393.2.1
  have := h3393.2.2.1
  have := h3393.2.2.2.1
  have := h3393.2.2.2.2.2.2.2.2.2
  refine wq_X0_leftOfAll h3393 (fun r_1 => ?_)
  have e3394 := tq_ite (a := (1 : Int32)) (b := (s2.1 2)) (x := (s2.1 2)) (y := (1 : Int32))
  simp only [li_1] at e3394
  refine ⟨(z_ne (by have := li_0; omega)), ?_⟩
  refine wq_X0_mostLeft h3393 (fun r_4 => ?_)
  exact k _
theorem wq_X6_left {post : Int32 → Prop} {s2 : Bd} {x1 : Int32} {R W : Int} (h3395 : bi (R) (W) s2) (k : ∀ (r : Int32), post r) : wp_X6_left post s2 x1 := by
  unfold wp_X6_left
  have := h3395.1
  have := h3395.2.1
  have := h3395.2.2.1
  have := h3395.2.2.2.1
  have := h3395.2.2.2.2.2.2.2.2.2
  refine wq_X0_isThere h3395 (fun r_1 q3396 => ?_)
  refine ⟨fun c3397 => ?_, fun c3398 => ?_⟩
  · replace c3397 := q_neq c3397
    rw [li_0] at c3397
    refine ⟨fun c3399 => ?_, fun c3400 => ?_⟩
    · replace c3399 := q_eq c3399
      rw [li_0] at c3399
      refine wq_X0_leftOfAll h3395 (fun r_5 => ?_)
      exact k _
    · replace c3400 := q_neq c3400
      rw [li_0] at c3400
      refine ⟨fun c3401 => ?_, fun c3402 => ?_⟩
      · replace c3401 := q_eq c3401
        rw [li_1] at c3401
        refine wq_X0_mostLeft h3395 (fun r_8 => ?_)
        exact k _
      · replace c3402 := q_neq c3402
        rw [li_1] at c3402
        refine ⟨fun c3403 => ?_, fun c3404 => ?_⟩
        · replace c3403 := q_eq c3403
          rw [li_2] at c3403
          refine wq_X0_leftOfAll h3395 (fun r_11 => ?_)
          exact k _
        · replace c3404 := q_neq c3404
          rw [li_2] at c3404
          refine ⟨fun c3405 => ?_, fun c3406 => ?_⟩
          · replace c3405 := q_eq c3405
            rw [li_3] at c3405
            refine wq_X6_leastTicks h3395 (fun r_14 => ?_)
            exact k _
          · replace c3406 := q_neq c3406
            rw [li_3] at c3406
            exact k _
  · replace c3398 := q_eq c3398
    rw [li_0] at c3398
    exact k _
