theorem wq_X7_mustByte {post : Int32 → Md → Prop} {s0 : Md} {x1 : Int32} {N R W D : Int} (h : mb N R W D s0) (h6 : 0 ≤ (s0.1 6).toInt ∧ (s0.1 6).toInt ≤ N) (hx : ¬ x1.toInt = -1) (k : ∀ (r : Int32) (u : Md), mb N R W D u → ie [6, 7] u.1 s0.1 → (s0.1 6).toInt ≤ (u.1 6).toInt ∧ (u.1 6).toInt ≤ N → (r.toInt = 0 ∨ (r.toInt = 1 ∧ (s0.1 6).toInt < (u.1 6).toInt)) → (¬ tb7 s0 (s0.1 6) = 32 → ¬ tb7 s0 (s0.1 6) = x1 → r.toInt = 0) → post r u) : wp_X7_mustByte post s0 x1 := by
  unfold wp_X7_mustByte
  have e0 : (0 : Int32).toInt = 0 := rfl
  have e1 : (1 : Int32).toInt = 1 := rfl
  refine wq_X7_takesByte h h6 hx (fun r u hu ju b1 b2 b3 => ⟨fun c => ?_, fun c => ?_⟩)
  · have c2 := q_neq c
    refine k _ _ hu (ie_tr ju (by decide) (ie_refl _ _)) b1 (Or.inr ⟨e1, by omega⟩) (fun g1 g2 => ?_)
    have := b3 g1 g2
    omega
  · unfold wp_X7_fails
    exact ⟨fun _ => k _ _ (mb_i hu rfl rfl rfl) (ie_up (ie_tr ju (by decide) (ie_refl _ _)) (by decide)) b1 (Or.inl e0) (fun _ _ => e0), fun g => absurd rfl g⟩
theorem wq_X7_readsNumber_L40 {post : Int32 → Md → Prop} {e107 : Md → Int32 → Int32 → Prop} {N R W D G Y Z : Int} {A : Nat → Int32} (ke107 : ∀ (t0 : Md) (z1 : Int32) (z2 : Int32), mb (N) (R) (W) (D) t0 → ie [6, 8] t0.1 A → 0 ≤ (t0.1 6).toInt ∧ (t0.1 6).toInt ≤ N ∧ G ≤ (t0.1 6).toInt → (z1).toInt = Y → (z2).toInt = Z → e107 t0 z1 z2) : ∀ (n : Nat) (t0 : Md) (z1 : Int32) (z2 : Int32), mb (N) (R) (W) (D) t0 → ie [6, 8] t0.1 A → 0 ≤ (t0.1 6).toInt ∧ (t0.1 6).toInt ≤ N ∧ G ≤ (t0.1 6).toInt → (z1).toInt = Y → (z2).toInt = Z → N - (t0.1 6).toInt < (n : Int) → wp_X7_readsNumber_L40 post e107 n t0 z1 z2 := by
  intro n
  induction n with
  | zero =>
    intro t0 z1 z2 i102355 i102356 i102357 i102358 i102359 i102360
    have := i102355.1
    have := i102355.2.1
    have := i102355.2.2.1
    have := i102355.2.2.2.1
    exfalso
    omega
  | succ n ih =>
    intro t0 z1 z2 i102355 i102356 i102357 i102358 i102359 i102360
    unfold wp_X7_readsNumber_L40
    have := i102355.1
    have := i102355.2.1
    have := i102355.2.2.1
    have := i102355.2.2.2.1
    have p102361 : 0 ≤ (t0.1 6).toInt := by omega
    refine wq_X7_byteAt i102355 p102361 (fun r_6 q102362 q102363 => ?_)
    refine wq_X7_in (fun r_8 q102364 => ?_)
    try simp only [lj_48, lj_57] at q102364
    have := tq_64 r_6
    refine ⟨fun c102365 => ?_, fun c102366 => ?_⟩
    · replace c102365 := q_eq c102365
      rw [li_0] at c102365
      have p102367 : ie [6, 8] t0.1 A := (ie_tr i102356 (by decide) (ie_refl _ _))
      have p102368 : 0 ≤ (t0.1 6).toInt ∧ (t0.1 6).toInt ≤ N ∧ G ≤ (t0.1 6).toInt := by omega
      have p102369 : (z1).toInt = Y := by omega
      have p102370 : (z2).toInt = Z := by omega
      exact ke107 _ _ _ i102355 p102367 p102368 p102369 p102370
    · replace c102366 := q_neq c102366
      rw [li_0] at c102366
      refine ⟨fun c102371 => ?_, fun c102372 => ?_⟩
      · replace c102371 := q_le c102371
        rw [li_10000] at c102371
        have : (t0.1 5).toInt = (A 5).toInt := ie_i i102356 5 (by decide)
        have p102373 : (t0.1 5).toInt = N := by omega
        have : (t0.1 0).toInt = (A 0).toInt := ie_i i102356 0 (by decide)
        have p102374 : 0 ≤ (t0.1 0).toInt ∧ (t0.1 0).toInt ≤ 10 := by omega
        have p102375 : 0 ≤ N ∧ N ≤ 400 := by omega
        have p102376 : 0 ≤ R ∧ R ≤ 6 ∧ 0 ≤ W ∧ W ≤ 10 ∧ 0 ≤ R * W ∧ R * W ≤ 40 ∧ 0 ≤ D ∧ D ≤ 4 ∧ (D ≤ 0 ∨ 1 ≤ R) ∧ (1 ≤ R ∨ R * W = 0) := by omega
        have B102377 : mb (N) (R) (W) (D) ((va_up t0.1 6 ((t0.1 6) + 1)), t0.2.1, t0.2.2.1, t0.2.2.2) := ⟨p102373, p102374, p102375, p102376, i102355.2.2.2.2.1, i102355.2.2.2.2.2.1, i102355.2.2.2.2.2.2.1, i102355.2.2.2.2.2.2.2⟩
        have p102378 : ie [6, 8] (va_up t0.1 6 ((t0.1 6) + 1)) A := (ie_up (ie_tr i102356 (by decide) (ie_refl _ _)) (by decide))
        have e102379 := tq_addr li_1 (t0.1 6)
        try rw [Int.emod_eq_of_lt (show 0 ≤ (t0.1 6).toInt + 1 + 2147483648 by omega) (show (t0.1 6).toInt + 1 + 2147483648 < 4294967296 by omega)] at e102379
        have p102380 : 0 ≤ ((t0.1 6) + 1).toInt ∧ ((t0.1 6) + 1).toInt ≤ N ∧ G ≤ ((t0.1 6) + 1).toInt := by omega
        have p102381 : (z1).toInt = Y := by omega
        have p102382 : (z2).toInt = Z := by omega
        have p102383 : N - ((t0.1 6) + 1).toInt < ((n : Nat) : Int) := by (omega)
        exact ih _ _ _ B102377 p102378 p102380 p102381 p102382 p102383
      · replace c102372 := q_nle c102372
        rw [li_10000] at c102372
        have p102384 : 0 ≤ (t0.1 6).toInt := by omega
        refine wq_X7_byteAt i102355 p102384 (fun r_12 q102385 q102386 => ?_)
        have : (t0.1 5).toInt = (A 5).toInt := ie_i i102356 5 (by decide)
        have p102387 : (t0.1 5).toInt = N := by omega
        have : (t0.1 0).toInt = (A 0).toInt := ie_i i102356 0 (by decide)
        have p102388 : 0 ≤ (t0.1 0).toInt ∧ (t0.1 0).toInt ≤ 10 := by omega
        have p102389 : 0 ≤ N ∧ N ≤ 400 := by omega
        have p102390 : 0 ≤ R ∧ R ≤ 6 ∧ 0 ≤ W ∧ W ≤ 10 ∧ 0 ≤ R * W ∧ R * W ≤ 40 ∧ 0 ≤ D ∧ D ≤ 4 ∧ (D ≤ 0 ∨ 1 ≤ R) ∧ (1 ≤ R ∨ R * W = 0) := by omega
        have B102391 : mb (N) (R) (W) (D) ((va_up (va_up t0.1 6 ((t0.1 6) + 1)) 8 (((10 * (t0.1 8)) + r_12) - 48)), t0.2.1, t0.2.2.1, t0.2.2.2) := ⟨p102387, p102388, p102389, p102390, i102355.2.2.2.2.1, i102355.2.2.2.2.2.1, i102355.2.2.2.2.2.2.1, i102355.2.2.2.2.2.2.2⟩
        have p102392 : ie [6, 8] (va_up (va_up t0.1 6 ((t0.1 6) + 1)) 8 (((10 * (t0.1 8)) + r_12) - 48)) A := (ie_up (ie_up (ie_tr i102356 (by decide) (ie_refl _ _)) (by decide)) (by decide))
        have e102393 := tq_addr li_1 (t0.1 6)
        try rw [Int.emod_eq_of_lt (show 0 ≤ (t0.1 6).toInt + 1 + 2147483648 by omega) (show (t0.1 6).toInt + 1 + 2147483648 < 4294967296 by omega)] at e102393
        have p102394 : 0 ≤ ((t0.1 6) + 1).toInt ∧ ((t0.1 6) + 1).toInt ≤ N ∧ G ≤ ((t0.1 6) + 1).toInt := by omega
        have p102395 : (z1).toInt = Y := by omega
        have p102396 : (z2).toInt = Z := by omega
        have p102397 : N - ((t0.1 6) + 1).toInt < ((n : Nat) : Int) := by (omega)
        exact ih _ _ _ B102391 p102392 p102394 p102395 p102396 p102397
theorem wq_X7_readsNumber {post : Int32 → Md → Prop} {s0 : Md} {x1 : Int32} {x2 : Int32} {N R W D : Int} (h102398 : mb (N) (R) (W) (D) s0) (h102399 : 0 ≤ (s0.1 6).toInt ∧ (s0.1 6).toInt ≤ N) (k : ∀ (r : Int32) (u : Md), mb (N) (R) (W) (D) u → ie [6, 7, 8, 9] u.1 s0.1 → (r).toInt = 0 ∨ (r).toInt = 1 → (s0.1 6).toInt ≤ (u.1 6).toInt ∧ (u.1 6).toInt ≤ N → (r).toInt = 0 ∨ ((x1).toInt ≤ (u.1 8).toInt ∧ (u.1 8).toInt ≤ (x2).toInt) → post r u) : wp_X7_readsNumber post s0 x1 x2 := by
  unfold wp_X7_readsNumber
  have := h102398.1
  have := h102398.2.1
  have := h102398.2.2.1
  have := h102398.2.2.2.1
  have p102400 : 0 ≤ (s0.1 6).toInt ∧ (s0.1 6).toInt ≤ N := by omega
  refine wq_X7_nextByte h102398 p102400 (fun r_1 u_2 q102401 q102402 q102403 q102404 q102405 => ?_)
  have := q102401.1
  have := q102401.2.1
  refine wq_X7_in (fun r_3 q102406 => ?_)
  try simp only [lj_48, lj_57] at q102406
  have := tq_64 r_1
  refine ⟨fun c102407 => ?_, fun c102408 => ?_⟩
  · replace c102407 := q_neq c102407
    rw [li_0] at c102407
    have : (u_2.1 5).toInt = (s0.1 5).toInt := ie_i q102402 5 (by decide)
    have p102409 : (u_2.1 5).toInt = N := by omega
    have : (u_2.1 0).toInt = (s0.1 0).toInt := ie_i q102402 0 (by decide)
    have p102410 : 0 ≤ (u_2.1 0).toInt ∧ (u_2.1 0).toInt ≤ 10 := by omega
    have p102411 : 0 ≤ N ∧ N ≤ 400 := by omega
    have p102412 : 0 ≤ R ∧ R ≤ 6 ∧ 0 ≤ W ∧ W ≤ 10 ∧ 0 ≤ R * W ∧ R * W ≤ 40 ∧ 0 ≤ D ∧ D ≤ 4 ∧ (D ≤ 0 ∨ 1 ≤ R) ∧ (1 ≤ R ∨ R * W = 0) := by omega
    have B102413 : mb (N) (R) (W) (D) ((va_up (va_up u_2.1 8 0) 9 (u_2.1 6)), u_2.2.1, u_2.2.2.1, u_2.2.2.2) := ⟨p102409, p102410, p102411, p102412, q102401.2.2.2.2.1, q102401.2.2.2.2.2.1, q102401.2.2.2.2.2.2.1, q102401.2.2.2.2.2.2.2⟩
    have p102414 : ie [6, 8] (va_up (va_up u_2.1 8 0) 9 (u_2.1 6)) (va_up (va_up u_2.1 8 0) 9 (u_2.1 6)) := (ie_refl _ _)
    have p102415 : 0 ≤ (u_2.1 6).toInt ∧ (u_2.1 6).toInt ≤ N ∧ ((u_2.1 6).toInt) ≤ (u_2.1 6).toInt := by omega
    have p102416 : (x1).toInt = ((x1).toInt) := by omega
    have p102417 : (x2).toInt = ((x2).toInt) := by omega
    obtain ⟨f102418, g102419⟩ := fu_e 500
    have p102420 : N - (u_2.1 6).toInt < (f102418 : Int) := by (omega)
    refine ⟨f102418, wq_X7_readsNumber_L40 (fun t0 z1 z2 q102421 q102422 q102423 q102424 q102425 => ?_) f102418 _ _ _ B102413 p102414 p102415 p102416 p102417 p102420⟩
    have := q102421.1
    have := q102421.2.1
    refine wq_X7_in (fun r_14 q102426 => ?_)
    have := tq_64 z1
    have := tq_64 (t0.1 8)
    have := tq_64 z2
    refine ⟨fun c102427 => ?_, fun c102428 => ?_⟩
    · replace c102427 := q_neq c102427
      rw [li_0] at c102427
      have p102429 : ie [6, 7, 8, 9] t0.1 s0.1 := (ie_tr q102422 (by decide) (ie_up (ie_up (ie_tr q102402 (by decide) (ie_refl _ _)) (by decide)) (by decide)))
      have p102430 : (1 : Int32).toInt = 0 ∨ (1 : Int32).toInt = 1 := by (have := li_1; omega)
      have p102431 : (s0.1 6).toInt ≤ (t0.1 6).toInt ∧ (t0.1 6).toInt ≤ N := by omega
      have p102432 : (1 : Int32).toInt = 0 ∨ ((x1).toInt ≤ (t0.1 8).toInt ∧ (t0.1 8).toInt ≤ (x2).toInt) := by (have := li_1; omega)
      exact k _ _ q102421 p102429 p102430 p102431 p102432
    · replace c102428 := q_eq c102428
      rw [li_0] at c102428
      refine wq_X7_fails q102421 (fun r_17 u_18 q102433 q102434 q102435 => ?_)
      have := q102433.1
      have := q102433.2.1
      refine ⟨fun c102436 => ?_, fun c102437 => ?_⟩
      · replace c102436 := q_eq c102436
        rw [li_0] at c102436
        have p102438 : ie [6, 7, 8, 9] u_18.1 s0.1 := (ie_tr q102434 (by decide) (ie_tr q102422 (by decide) (ie_up (ie_up (ie_tr q102402 (by decide) (ie_refl _ _)) (by decide)) (by decide))))
        have p102439 : (0 : Int32).toInt = 0 ∨ (0 : Int32).toInt = 1 := by (have := li_0; omega)
        have : (u_18.1 6).toInt = (t0.1 6).toInt := ie_i q102434 6 (by decide)
        have p102440 : (s0.1 6).toInt ≤ (u_18.1 6).toInt ∧ (u_18.1 6).toInt ≤ N := by omega
        have : (u_18.1 8).toInt = (t0.1 8).toInt := ie_i q102434 8 (by decide)
        have p102441 : (0 : Int32).toInt = 0 ∨ ((x1).toInt ≤ (u_18.1 8).toInt ∧ (u_18.1 8).toInt ≤ (x2).toInt) := by (have := li_0; omega)
        exact k _ _ q102433 p102438 p102439 p102440 p102441
      · replace c102437 := q_neq c102437
        rw [li_0] at c102437
        have p102442 : ie [6, 7, 8, 9] u_18.1 s0.1 := (ie_tr q102434 (by decide) (ie_tr q102422 (by decide) (ie_up (ie_up (ie_tr q102402 (by decide) (ie_refl _ _)) (by decide)) (by decide))))
        have p102443 : (1 : Int32).toInt = 0 ∨ (1 : Int32).toInt = 1 := by (have := li_1; omega)
        have : (u_18.1 6).toInt = (t0.1 6).toInt := ie_i q102434 6 (by decide)
        have p102444 : (s0.1 6).toInt ≤ (u_18.1 6).toInt ∧ (u_18.1 6).toInt ≤ N := by omega
        have : (u_18.1 8).toInt = (t0.1 8).toInt := ie_i q102434 8 (by decide)
        have p102445 : (1 : Int32).toInt = 0 ∨ ((x1).toInt ≤ (u_18.1 8).toInt ∧ (u_18.1 8).toInt ≤ (x2).toInt) := by (have := li_1; omega)
        exact k _ _ q102433 p102442 p102443 p102444 p102445
  · replace c102408 := q_eq c102408
    rw [li_0] at c102408
    refine wq_X7_fails q102401 (fun r_20 u_21 q102446 q102447 q102448 => ?_)
    have := q102446.1
    have := q102446.2.1
    refine ⟨(nb_b (by omega)), ?_⟩
    have p102449 : ie [6, 7, 8, 9] u_21.1 s0.1 := (ie_tr q102447 (by decide) (ie_tr q102402 (by decide) (ie_refl _ _)))
    have p102450 : (r_20).toInt = 0 ∨ (r_20).toInt = 1 := by omega
    have : (u_21.1 6).toInt = (u_2.1 6).toInt := ie_i q102447 6 (by decide)
    have p102451 : (s0.1 6).toInt ≤ (u_21.1 6).toInt ∧ (u_21.1 6).toInt ≤ N := by omega
    have : (u_21.1 8).toInt = (u_2.1 8).toInt := ie_i q102447 8 (by decide)
    have : (u_2.1 8).toInt = (s0.1 8).toInt := ie_i q102402 8 (by decide)
    have p102452 : (r_20).toInt = 0 ∨ ((x1).toInt ≤ (u_21.1 8).toInt ∧ (u_21.1 8).toInt ≤ (x2).toInt) := by omega
    exact k _ _ q102446 p102449 p102450 p102451 p102452
theorem wq_X7_readsQuoted_L24 {post : Int32 → Md → Prop} {e102 : Md → Int32 → Int32 → Prop} {N R W D G Y Z : Int} {A : Nat → Int32} (ke102 : ∀ (t0 : Md) (z1 : Int32) (z2 : Int32), mb (N) (R) (W) (D) t0 → ie [6, 11] t0.1 A → 0 ≤ (t0.1 10).toInt ∧ 0 ≤ (t0.1 11).toInt ∧ (t0.1 11).toInt ≤ (z2).toInt ∧ (t0.1 6).toInt = (t0.1 10).toInt + (t0.1 11).toInt ∧ (t0.1 6).toInt < N ∧ G ≤ (t0.1 6).toInt → (z1).toInt = Y → (z2).toInt = Z → e102 t0 z1 z2) (k : ∀ (r : Int32) (u : Md), mb (N) (R) (W) (D) u → ie [6, 7, 11] u.1 A → (r).toInt = 0 → G ≤ (u.1 6).toInt ∧ (u.1 6).toInt ≤ N → post r u) : ∀ (n : Nat) (t0 : Md) (z1 : Int32) (z2 : Int32), mb (N) (R) (W) (D) t0 → ie [6, 11] t0.1 A → 0 ≤ (t0.1 10).toInt ∧ 0 ≤ (t0.1 11).toInt ∧ (t0.1 11).toInt ≤ (z2).toInt ∧ (t0.1 6).toInt = (t0.1 10).toInt + (t0.1 11).toInt ∧ (t0.1 6).toInt ≤ N ∧ G ≤ (t0.1 6).toInt → (z1).toInt = Y → (z2).toInt = Z → N - (t0.1 6).toInt < (n : Int) → wp_X7_readsQuoted_L24 post e102 n t0 z1 z2 := by
  intro n
  induction n with
  | zero =>
    intro t0 z1 z2 i102453 i102454 i102455 i102456 i102457 i102458
    have := i102453.1
    have := i102453.2.1
    have := i102453.2.2.1
    have := i102453.2.2.2.1
    have : (t0.1 10).toInt = (A 10).toInt := ie_i i102454 10 (by decide)
    exfalso
    omega
  | succ n ih =>
    intro t0 z1 z2 i102453 i102454 i102455 i102456 i102457 i102458
    unfold wp_X7_readsQuoted_L24
    have := i102453.1
    have := i102453.2.1
    have := i102453.2.2.1
    have := i102453.2.2.2.1
    have : (t0.1 10).toInt = (A 10).toInt := ie_i i102454 10 (by decide)
    have p102459 : 0 ≤ (t0.1 6).toInt := by omega
    refine wq_X7_byteAt i102453 p102459 (fun r_4 q102460 q102461 => ?_)
    refine ⟨fun c102462 => ?_, fun c102463 => ?_⟩
    · replace c102462 := q_eq c102462
      rw [li_39] at c102462
      have p102464 : ie [6, 11] t0.1 A := (ie_tr i102454 (by decide) (ie_refl _ _))
      have p102465 : 0 ≤ (t0.1 10).toInt ∧ 0 ≤ (t0.1 11).toInt ∧ (t0.1 11).toInt ≤ (z2).toInt ∧ (t0.1 6).toInt = (t0.1 10).toInt + (t0.1 11).toInt ∧ (t0.1 6).toInt < N ∧ G ≤ (t0.1 6).toInt := by omega
      have p102466 : (z1).toInt = Y := by omega
      have p102467 : (z2).toInt = Z := by omega
      exact ke102 _ _ _ i102453 p102464 p102465 p102466 p102467
    · replace c102463 := q_neq c102463
      rw [li_39] at c102463
      have p102468 : 0 ≤ (t0.1 6).toInt := by omega
      refine wq_X7_byteAt i102453 p102468 (fun r_7 q102469 q102470 => ?_)
      refine wq_X7_isSign (fun r_9 q102471 => ?_)
      refine ⟨fun c102472 => ?_, fun c102473 => ?_⟩
      · replace c102472 := q_neq c102472
        rw [li_0] at c102472
        refine ⟨fun c102474 => ?_, fun c102475 => ?_⟩
        · replace c102474 := q_neq c102474
          have : (t0.1 5).toInt = (A 5).toInt := ie_i i102454 5 (by decide)
          have p102476 : (t0.1 5).toInt = N := by omega
          have : (t0.1 0).toInt = (A 0).toInt := ie_i i102454 0 (by decide)
          have p102477 : 0 ≤ (t0.1 0).toInt ∧ (t0.1 0).toInt ≤ 10 := by omega
          have p102478 : 0 ≤ N ∧ N ≤ 400 := by omega
          have p102479 : 0 ≤ R ∧ R ≤ 6 ∧ 0 ≤ W ∧ W ≤ 10 ∧ 0 ≤ R * W ∧ R * W ≤ 40 ∧ 0 ≤ D ∧ D ≤ 4 ∧ (D ≤ 0 ∨ 1 ≤ R) ∧ (1 ≤ R ∨ R * W = 0) := by omega
          have B102480 : mb (N) (R) (W) (D) ((va_up (va_up t0.1 6 ((t0.1 6) + 1)) 11 ((t0.1 11) + 1)), t0.2.1, t0.2.2.1, t0.2.2.2) := ⟨p102476, p102477, p102478, p102479, i102453.2.2.2.2.1, i102453.2.2.2.2.2.1, i102453.2.2.2.2.2.2.1, i102453.2.2.2.2.2.2.2⟩
          have p102481 : ie [6, 11] (va_up (va_up t0.1 6 ((t0.1 6) + 1)) 11 ((t0.1 11) + 1)) A := (ie_up (ie_up (ie_tr i102454 (by decide) (ie_refl _ _)) (by decide)) (by decide))
          have e102482 := tq_addr li_1 (t0.1 11)
          try rw [Int.emod_eq_of_lt (show 0 ≤ (t0.1 11).toInt + 1 + 2147483648 by omega) (show (t0.1 11).toInt + 1 + 2147483648 < 4294967296 by omega)] at e102482
          have e102483 := tq_addr li_1 (t0.1 6)
          try rw [Int.emod_eq_of_lt (show 0 ≤ (t0.1 6).toInt + 1 + 2147483648 by omega) (show (t0.1 6).toInt + 1 + 2147483648 < 4294967296 by omega)] at e102483
          have p102484 : 0 ≤ (t0.1 10).toInt ∧ 0 ≤ ((t0.1 11) + 1).toInt ∧ ((t0.1 11) + 1).toInt ≤ (z2).toInt ∧ ((t0.1 6) + 1).toInt = (t0.1 10).toInt + ((t0.1 11) + 1).toInt ∧ ((t0.1 6) + 1).toInt ≤ N ∧ G ≤ ((t0.1 6) + 1).toInt := by omega
          have p102485 : (z1).toInt = Y := by omega
          have p102486 : (z2).toInt = Z := by omega
          have p102487 : N - ((t0.1 6) + 1).toInt < ((n : Nat) : Int) := by (omega)
          exact ih _ _ _ B102480 p102481 p102484 p102485 p102486 p102487
        · replace c102475 := q_eq c102475
          refine wq_X7_fails i102453 (fun r_13 u_14 q102488 q102489 q102490 => ?_)
          have := q102488.1
          have := q102488.2.1
          refine ⟨(nb_b (by omega)), ?_⟩
          have p102491 : ie [6, 7, 11] u_14.1 A := (ie_tr q102489 (by decide) (ie_tr i102454 (by decide) (ie_refl _ _)))
          have p102492 : (r_13).toInt = 0 := by omega
          have : (u_14.1 6).toInt = (t0.1 6).toInt := ie_i q102489 6 (by decide)
          have p102493 : G ≤ (u_14.1 6).toInt ∧ (u_14.1 6).toInt ≤ N := by omega
          exact k _ _ q102488 p102491 p102492 p102493
      · replace c102473 := q_eq c102473
        rw [li_0] at c102473
        refine wq_X7_fails i102453 (fun r_16 u_17 q102494 q102495 q102496 => ?_)
        have := q102494.1
        have := q102494.2.1
        refine ⟨(nb_b (by omega)), ?_⟩
        have p102497 : ie [6, 7, 11] u_17.1 A := (ie_tr q102495 (by decide) (ie_tr i102454 (by decide) (ie_refl _ _)))
        have p102498 : (r_16).toInt = 0 := by omega
        have : (u_17.1 6).toInt = (t0.1 6).toInt := ie_i q102495 6 (by decide)
        have p102499 : G ≤ (u_17.1 6).toInt ∧ (u_17.1 6).toInt ≤ N := by omega
        exact k _ _ q102494 p102497 p102498 p102499
theorem wq_X7_readsQuoted {post : Int32 → Md → Prop} {s0 : Md} {x1 : Int32} {x2 : Int32} {N R W D : Int} (h102500 : mb (N) (R) (W) (D) s0) (h102501 : 0 ≤ (s0.1 6).toInt ∧ (s0.1 6).toInt ≤ N) (h102502 : 0 ≤ (x2).toInt) (k : ∀ (r : Int32) (u : Md), mb (N) (R) (W) (D) u → ie [6, 7, 10, 11] u.1 s0.1 → (r).toInt = 0 ∨ (r).toInt = 1 → (s0.1 6).toInt ≤ (u.1 6).toInt ∧ (u.1 6).toInt ≤ N → (r).toInt = 0 ∨ (0 ≤ (u.1 10).toInt ∧ 0 ≤ (u.1 11).toInt ∧ (u.1 10).toInt + (u.1 11).toInt ≤ N ∧ (x1).toInt ≤ (u.1 11).toInt ∧ (u.1 11).toInt ≤ (x2).toInt) → post r u) : wp_X7_readsQuoted post s0 x1 x2 := by
  unfold wp_X7_readsQuoted
  have := h102500.1
  have := h102500.2.1
  have := h102500.2.2.1
  have := h102500.2.2.2.1
  have p102503 : 0 ≤ (s0.1 6).toInt ∧ (s0.1 6).toInt ≤ N := by omega
  have p102504 : ¬ ((39 : Int32)).toInt = -1 := by (have := li_39; omega)
  refine wq_X7_mustByte h102500 p102503 p102504 (fun r_1 u_2 q102505 q102506 q102507 q102508 q102509 => ?_)
  have := q102505.1
  have := q102505.2.1
  refine ⟨fun c102510 => ?_, fun c102511 => ?_⟩
  · replace c102510 := q_neq c102510
    rw [li_0] at c102510
    have : (u_2.1 5).toInt = (s0.1 5).toInt := ie_i q102506 5 (by decide)
    have p102512 : (u_2.1 5).toInt = N := by omega
    have : (u_2.1 0).toInt = (s0.1 0).toInt := ie_i q102506 0 (by decide)
    have p102513 : 0 ≤ (u_2.1 0).toInt ∧ (u_2.1 0).toInt ≤ 10 := by omega
    have p102514 : 0 ≤ N ∧ N ≤ 400 := by omega
    have p102515 : 0 ≤ R ∧ R ≤ 6 ∧ 0 ≤ W ∧ W ≤ 10 ∧ 0 ≤ R * W ∧ R * W ≤ 40 ∧ 0 ≤ D ∧ D ≤ 4 ∧ (D ≤ 0 ∨ 1 ≤ R) ∧ (1 ≤ R ∨ R * W = 0) := by omega
    have B102516 : mb (N) (R) (W) (D) ((va_up (va_up u_2.1 10 (u_2.1 6)) 11 0), u_2.2.1, u_2.2.2.1, u_2.2.2.2) := ⟨p102512, p102513, p102514, p102515, q102505.2.2.2.2.1, q102505.2.2.2.2.2.1, q102505.2.2.2.2.2.2.1, q102505.2.2.2.2.2.2.2⟩
    have p102517 : ie [6, 11] (va_up (va_up u_2.1 10 (u_2.1 6)) 11 0) (va_up (va_up u_2.1 10 (u_2.1 6)) 11 0) := (ie_refl _ _)
    have p102518 : 0 ≤ (u_2.1 6).toInt ∧ 0 ≤ (0 : Int32).toInt ∧ (0 : Int32).toInt ≤ (x2).toInt ∧ (u_2.1 6).toInt = (u_2.1 6).toInt + (0 : Int32).toInt ∧ (u_2.1 6).toInt ≤ N ∧ ((u_2.1 6).toInt) ≤ (u_2.1 6).toInt := by (have := li_0; omega)
    have p102519 : (x1).toInt = ((x1).toInt) := by omega
    have p102520 : (x2).toInt = ((x2).toInt) := by omega
    obtain ⟨f102521, g102522⟩ := fu_e 500
    have p102523 : N - (u_2.1 6).toInt < (f102521 : Int) := by (omega)
    refine ⟨f102521, wq_X7_readsQuoted_L24 (fun t0 z1 z2 q102524 q102525 q102526 q102527 q102528 => ?_) (fun r102529 u102530 q102531 q102532 q102533 q102534 => ?_) f102521 _ _ _ B102516 p102517 p102518 p102519 p102520 p102523⟩
    · have := q102524.1
      have := q102524.2.1
      have : (t0.1 10).toInt = (u_2.1 6).toInt := ie_i q102525 10 (by decide)
      refine ⟨fun c102535 => ?_, fun c102536 => ?_⟩
      · replace c102535 := q_le c102535
        have : (t0.1 5).toInt = (u_2.1 5).toInt := ie_i q102525 5 (by decide)
        have p102537 : (t0.1 5).toInt = N := by omega
        have : (t0.1 0).toInt = (u_2.1 0).toInt := ie_i q102525 0 (by decide)
        have p102538 : 0 ≤ (t0.1 0).toInt ∧ (t0.1 0).toInt ≤ 10 := by omega
        have p102539 : 0 ≤ N ∧ N ≤ 400 := by omega
        have p102540 : 0 ≤ R ∧ R ≤ 6 ∧ 0 ≤ W ∧ W ≤ 10 ∧ 0 ≤ R * W ∧ R * W ≤ 40 ∧ 0 ≤ D ∧ D ≤ 4 ∧ (D ≤ 0 ∨ 1 ≤ R) ∧ (1 ≤ R ∨ R * W = 0) := by omega
        have B102541 : mb (N) (R) (W) (D) ((va_up t0.1 6 ((t0.1 6) + 1)), t0.2.1, t0.2.2.1, t0.2.2.2) := ⟨p102537, p102538, p102539, p102540, q102524.2.2.2.2.1, q102524.2.2.2.2.2.1, q102524.2.2.2.2.2.2.1, q102524.2.2.2.2.2.2.2⟩
        have p102542 : ie [6, 7, 10, 11] (va_up t0.1 6 ((t0.1 6) + 1)) s0.1 := (ie_up (ie_tr q102525 (by decide) (ie_up (ie_up (ie_tr q102506 (by decide) (ie_refl _ _)) (by decide)) (by decide))) (by decide))
        have p102543 : (1 : Int32).toInt = 0 ∨ (1 : Int32).toInt = 1 := by (have := li_1; omega)
        have e102544 := tq_addr li_1 (t0.1 6)
        try rw [Int.emod_eq_of_lt (show 0 ≤ (t0.1 6).toInt + 1 + 2147483648 by omega) (show (t0.1 6).toInt + 1 + 2147483648 < 4294967296 by omega)] at e102544
        have p102545 : (s0.1 6).toInt ≤ ((t0.1 6) + 1).toInt ∧ ((t0.1 6) + 1).toInt ≤ N := by omega
        have p102546 : (1 : Int32).toInt = 0 ∨ (0 ≤ (t0.1 10).toInt ∧ 0 ≤ (t0.1 11).toInt ∧ (t0.1 10).toInt + (t0.1 11).toInt ≤ N ∧ (x1).toInt ≤ (t0.1 11).toInt ∧ (t0.1 11).toInt ≤ (x2).toInt) := by (have := li_1; omega)
        exact k _ _ B102541 p102542 p102543 p102545 p102546
      · replace c102536 := q_nle c102536
        refine wq_X7_fails q102524 (fun r_20 u_21 q102547 q102548 q102549 => ?_)
        have := q102547.1
        have := q102547.2.1
        refine ⟨(nb_b (by omega)), ?_⟩
        have p102550 : ie [6, 7, 10, 11] u_21.1 s0.1 := (ie_tr q102548 (by decide) (ie_tr q102525 (by decide) (ie_up (ie_up (ie_tr q102506 (by decide) (ie_refl _ _)) (by decide)) (by decide))))
        have p102551 : (r_20).toInt = 0 ∨ (r_20).toInt = 1 := by omega
        have : (u_21.1 6).toInt = (t0.1 6).toInt := ie_i q102548 6 (by decide)
        have p102552 : (s0.1 6).toInt ≤ (u_21.1 6).toInt ∧ (u_21.1 6).toInt ≤ N := by omega
        have : (u_21.1 10).toInt = (t0.1 10).toInt := ie_i q102548 10 (by decide)
        have : (u_21.1 11).toInt = (t0.1 11).toInt := ie_i q102548 11 (by decide)
        have p102553 : (r_20).toInt = 0 ∨ (0 ≤ (u_21.1 10).toInt ∧ 0 ≤ (u_21.1 11).toInt ∧ (u_21.1 10).toInt + (u_21.1 11).toInt ≤ N ∧ (x1).toInt ≤ (u_21.1 11).toInt ∧ (u_21.1 11).toInt ≤ (x2).toInt) := by omega
        exact k _ _ q102547 p102550 p102551 p102552 p102553
    · have := q102531.1
      have := q102531.2.1
      have p102554 : ie [6, 7, 10, 11] u102530.1 s0.1 := (ie_tr q102532 (by decide) (ie_up (ie_up (ie_tr q102506 (by decide) (ie_refl _ _)) (by decide)) (by decide)))
      have p102555 : (r102529).toInt = 0 ∨ (r102529).toInt = 1 := by omega
      have p102556 : (s0.1 6).toInt ≤ (u102530.1 6).toInt ∧ (u102530.1 6).toInt ≤ N := by omega
      have : (u102530.1 10).toInt = (u_2.1 6).toInt := ie_i q102532 10 (by decide)
      have p102557 : (r102529).toInt = 0 ∨ (0 ≤ (u102530.1 10).toInt ∧ 0 ≤ (u102530.1 11).toInt ∧ (u102530.1 10).toInt + (u102530.1 11).toInt ≤ N ∧ (x1).toInt ≤ (u102530.1 11).toInt ∧ (u102530.1 11).toInt ≤ (x2).toInt) := by omega
      exact k _ _ q102531 p102554 p102555 p102556 p102557
  · replace c102511 := q_eq c102511
    rw [li_0] at c102511
    have p102558 : ie [6, 7, 10, 11] u_2.1 s0.1 := (ie_tr q102506 (by decide) (ie_refl _ _))
    have p102559 : (0 : Int32).toInt = 0 ∨ (0 : Int32).toInt = 1 := by (have := li_0; omega)
    have p102560 : (s0.1 6).toInt ≤ (u_2.1 6).toInt ∧ (u_2.1 6).toInt ≤ N := by omega
    have : (u_2.1 10).toInt = (s0.1 10).toInt := ie_i q102506 10 (by decide)
    have : (u_2.1 11).toInt = (s0.1 11).toInt := ie_i q102506 11 (by decide)
    have p102561 : (0 : Int32).toInt = 0 ∨ (0 ≤ (u_2.1 10).toInt ∧ 0 ≤ (u_2.1 11).toInt ∧ (u_2.1 10).toInt + (u_2.1 11).toInt ≤ N ∧ (x1).toInt ≤ (u_2.1 11).toInt ∧ (u_2.1 11).toInt ≤ (x2).toInt) := by (have := li_0; omega)
    exact k _ _ q102505 p102558 p102559 p102560 p102561
