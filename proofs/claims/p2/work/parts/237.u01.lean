theorem wq_X7_mustByte {post : Int32 → Md → Prop} {s0 : Md} {x1 : Int32} {N R W D : Int} (h : mb N R W D s0) (h6 : 0 ≤ (s0.1 6).toInt ∧ (s0.1 6).toInt ≤ N) (hx : ¬ x1.toInt = -1) (k : ∀ (r : Int32) (u : Md), mb N R W D u → ie [6, 7] u.1 s0.1 → (s0.1 6).toInt ≤ (u.1 6).toInt ∧ (u.1 6).toInt ≤ N → (r.toInt = 0 ∨ (r.toInt = 1 ∧ (s0.1 6).toInt < (u.1 6).toInt)) → u.2 = s0.2 → (¬ tb7 s0 (s0.1 6) = 32 → ¬ tb7 s0 (s0.1 6) = x1 → r.toInt = 0) → post r u) : wp_X7_mustByte post s0 x1 := by
  unfold wp_X7_mustByte
  have e0 : (0 : Int32).toInt = 0 := rfl
  have e1 : (1 : Int32).toInt = 1 := rfl
  refine wq_X7_takesByte h h6 hx (fun r u hu ju b1 b2 bE b3 => ⟨fun c => ?_, fun c => ?_⟩)
  · have c2 := q_neq c
    refine k _ _ hu (ie_tr ju (by decide) (ie_refl _ _)) b1 (Or.inr ⟨e1, by omega⟩) bE (fun g1 g2 => ?_)
    have := b3 g1 g2
    omega
  · unfold wp_X7_fails
    exact ⟨fun _ => k _ _ (mb_i hu rfl rfl rfl) (ie_up (ie_tr ju (by decide) (ie_refl _ _)) (by decide)) b1 (Or.inl e0) bE (fun _ _ => e0), fun g => absurd rfl g⟩
theorem wq_X7_readsNumber_L40 {post : Int32 → Md → Prop} {e107 : Md → Int32 → Int32 → Prop} {N R W D G Y Z : Int} {A : Nat → Int32} {B : Int64 × (Nat → Nat → Int64) × (Nat → Nat → Int32)} (ke107 : ∀ (t0 : Md) (z1 : Int32) (z2 : Int32), mb (N) (R) (W) (D) t0 → ie [6, 8] t0.1 A → 0 ≤ (t0.1 6).toInt ∧ (t0.1 6).toInt ≤ N ∧ G ≤ (t0.1 6).toInt → (z1).toInt = Y → (z2).toInt = Z → t0.2 = B → e107 t0 z1 z2) : ∀ (n : Nat) (t0 : Md) (z1 : Int32) (z2 : Int32), mb (N) (R) (W) (D) t0 → ie [6, 8] t0.1 A → 0 ≤ (t0.1 6).toInt ∧ (t0.1 6).toInt ≤ N ∧ G ≤ (t0.1 6).toInt → (z1).toInt = Y → (z2).toInt = Z → t0.2 = B → N - (t0.1 6).toInt < (n : Int) → wp_X7_readsNumber_L40 post e107 n t0 z1 z2 := by
  intro n
  induction n with
  | zero =>
    intro t0 z1 z2 i102383 i102384 i102385 i102386 i102387 i102388 i102389
    have := i102383.1
    have := i102383.2.1
    have := i102383.2.2.1
    have := i102383.2.2.2.1
    exfalso
    omega
  | succ n ih =>
    intro t0 z1 z2 i102383 i102384 i102385 i102386 i102387 i102388 i102389
    unfold wp_X7_readsNumber_L40
    have := i102383.1
    have := i102383.2.1
    have := i102383.2.2.1
    have := i102383.2.2.2.1
    have p102390 : 0 ≤ (t0.1 6).toInt := by omega
    refine wq_X7_byteAt i102383 p102390 (fun r_6 q102391 q102392 => ?_)
    refine wq_X7_in (fun r_8 q102393 => ?_)
    try simp only [lj_48, lj_57] at q102393
    have := tq_64 r_6
    refine ⟨fun c102394 => ?_, fun c102395 => ?_⟩
    · replace c102394 := q_eq c102394
      rw [li_0] at c102394
      have p102396 : ie [6, 8] t0.1 A := (ie_tr i102384 (by decide) (ie_refl _ _))
      have p102397 : 0 ≤ (t0.1 6).toInt ∧ (t0.1 6).toInt ≤ N ∧ G ≤ (t0.1 6).toInt := by omega
      have p102398 : (z1).toInt = Y := by omega
      have p102399 : (z2).toInt = Z := by omega
      have p102400 : t0.2 = B := i102388
      exact ke107 _ _ _ i102383 p102396 p102397 p102398 p102399 p102400
    · replace c102395 := q_neq c102395
      rw [li_0] at c102395
      refine ⟨fun c102401 => ?_, fun c102402 => ?_⟩
      · replace c102401 := q_le c102401
        rw [li_10000] at c102401
        have : (t0.1 5).toInt = (A 5).toInt := ie_i i102384 5 (by decide)
        have p102403 : (t0.1 5).toInt = N := by omega
        have : (t0.1 0).toInt = (A 0).toInt := ie_i i102384 0 (by decide)
        have p102404 : 0 ≤ (t0.1 0).toInt ∧ (t0.1 0).toInt ≤ 10 := by omega
        have p102405 : 0 ≤ N ∧ N ≤ 400 := by omega
        have p102406 : 0 ≤ R ∧ R ≤ 6 ∧ 0 ≤ W ∧ W ≤ 10 ∧ 0 ≤ R * W ∧ R * W ≤ 40 ∧ 0 ≤ D ∧ D ≤ 4 ∧ (D ≤ 0 ∨ 1 ≤ R) ∧ (1 ≤ R ∨ R * W = 0) := by omega
        have B102407 : mb (N) (R) (W) (D) ((va_up t0.1 6 ((t0.1 6) + 1)), t0.2.1, t0.2.2.1, t0.2.2.2) := ⟨p102403, p102404, p102405, p102406, i102383.2.2.2.2.1, i102383.2.2.2.2.2.1, i102383.2.2.2.2.2.2.1, i102383.2.2.2.2.2.2.2⟩
        have p102408 : ie [6, 8] (va_up t0.1 6 ((t0.1 6) + 1)) A := (ie_up (ie_tr i102384 (by decide) (ie_refl _ _)) (by decide))
        have e102409 := tq_addr li_1 (t0.1 6)
        try rw [Int.emod_eq_of_lt (show 0 ≤ (t0.1 6).toInt + 1 + 2147483648 by omega) (show (t0.1 6).toInt + 1 + 2147483648 < 4294967296 by omega)] at e102409
        have p102410 : 0 ≤ ((t0.1 6) + 1).toInt ∧ ((t0.1 6) + 1).toInt ≤ N ∧ G ≤ ((t0.1 6) + 1).toInt := by omega
        have p102411 : (z1).toInt = Y := by omega
        have p102412 : (z2).toInt = Z := by omega
        have p102413 : t0.2 = B := i102388
        have p102414 : N - ((t0.1 6) + 1).toInt < ((n : Nat) : Int) := by (omega)
        exact ih _ _ _ B102407 p102408 p102410 p102411 p102412 p102413 p102414
      · replace c102402 := q_nle c102402
        rw [li_10000] at c102402
        have p102415 : 0 ≤ (t0.1 6).toInt := by omega
        refine wq_X7_byteAt i102383 p102415 (fun r_12 q102416 q102417 => ?_)
        have : (t0.1 5).toInt = (A 5).toInt := ie_i i102384 5 (by decide)
        have p102418 : (t0.1 5).toInt = N := by omega
        have : (t0.1 0).toInt = (A 0).toInt := ie_i i102384 0 (by decide)
        have p102419 : 0 ≤ (t0.1 0).toInt ∧ (t0.1 0).toInt ≤ 10 := by omega
        have p102420 : 0 ≤ N ∧ N ≤ 400 := by omega
        have p102421 : 0 ≤ R ∧ R ≤ 6 ∧ 0 ≤ W ∧ W ≤ 10 ∧ 0 ≤ R * W ∧ R * W ≤ 40 ∧ 0 ≤ D ∧ D ≤ 4 ∧ (D ≤ 0 ∨ 1 ≤ R) ∧ (1 ≤ R ∨ R * W = 0) := by omega
        have B102422 : mb (N) (R) (W) (D) ((va_up (va_up t0.1 6 ((t0.1 6) + 1)) 8 (((10 * (t0.1 8)) + r_12) - 48)), t0.2.1, t0.2.2.1, t0.2.2.2) := ⟨p102418, p102419, p102420, p102421, i102383.2.2.2.2.1, i102383.2.2.2.2.2.1, i102383.2.2.2.2.2.2.1, i102383.2.2.2.2.2.2.2⟩
        have p102423 : ie [6, 8] (va_up (va_up t0.1 6 ((t0.1 6) + 1)) 8 (((10 * (t0.1 8)) + r_12) - 48)) A := (ie_up (ie_up (ie_tr i102384 (by decide) (ie_refl _ _)) (by decide)) (by decide))
        have e102424 := tq_addr li_1 (t0.1 6)
        try rw [Int.emod_eq_of_lt (show 0 ≤ (t0.1 6).toInt + 1 + 2147483648 by omega) (show (t0.1 6).toInt + 1 + 2147483648 < 4294967296 by omega)] at e102424
        have p102425 : 0 ≤ ((t0.1 6) + 1).toInt ∧ ((t0.1 6) + 1).toInt ≤ N ∧ G ≤ ((t0.1 6) + 1).toInt := by omega
        have p102426 : (z1).toInt = Y := by omega
        have p102427 : (z2).toInt = Z := by omega
        have p102428 : t0.2 = B := i102388
        have p102429 : N - ((t0.1 6) + 1).toInt < ((n : Nat) : Int) := by (omega)
        exact ih _ _ _ B102422 p102423 p102425 p102426 p102427 p102428 p102429
theorem wq_X7_readsNumber {post : Int32 → Md → Prop} {s0 : Md} {x1 : Int32} {x2 : Int32} {N R W D : Int} (h102430 : mb (N) (R) (W) (D) s0) (h102431 : 0 ≤ (s0.1 6).toInt ∧ (s0.1 6).toInt ≤ N) (k : ∀ (r : Int32) (u : Md), mb (N) (R) (W) (D) u → ie [6, 7, 8, 9] u.1 s0.1 → (r).toInt = 0 ∨ (r).toInt = 1 → (s0.1 6).toInt ≤ (u.1 6).toInt ∧ (u.1 6).toInt ≤ N → (r).toInt = 0 ∨ ((x1).toInt ≤ (u.1 8).toInt ∧ (u.1 8).toInt ≤ (x2).toInt) → u.2 = s0.2 → post r u) : wp_X7_readsNumber post s0 x1 x2 := by
  unfold wp_X7_readsNumber
  have := h102430.1
  have := h102430.2.1
  have := h102430.2.2.1
  have := h102430.2.2.2.1
  have p102432 : 0 ≤ (s0.1 6).toInt ∧ (s0.1 6).toInt ≤ N := by omega
  refine wq_X7_nextByte h102430 p102432 (fun r_1 u_2 q102433 q102434 q102435 q102436 q102437 q102438 => ?_)
  have := q102433.1
  have := q102433.2.1
  refine wq_X7_in (fun r_3 q102439 => ?_)
  try simp only [lj_48, lj_57] at q102439
  have := tq_64 r_1
  refine ⟨fun c102440 => ?_, fun c102441 => ?_⟩
  · replace c102440 := q_neq c102440
    rw [li_0] at c102440
    have : (u_2.1 5).toInt = (s0.1 5).toInt := ie_i q102434 5 (by decide)
    have p102442 : (u_2.1 5).toInt = N := by omega
    have : (u_2.1 0).toInt = (s0.1 0).toInt := ie_i q102434 0 (by decide)
    have p102443 : 0 ≤ (u_2.1 0).toInt ∧ (u_2.1 0).toInt ≤ 10 := by omega
    have p102444 : 0 ≤ N ∧ N ≤ 400 := by omega
    have p102445 : 0 ≤ R ∧ R ≤ 6 ∧ 0 ≤ W ∧ W ≤ 10 ∧ 0 ≤ R * W ∧ R * W ≤ 40 ∧ 0 ≤ D ∧ D ≤ 4 ∧ (D ≤ 0 ∨ 1 ≤ R) ∧ (1 ≤ R ∨ R * W = 0) := by omega
    have B102446 : mb (N) (R) (W) (D) ((va_up (va_up u_2.1 8 0) 9 (u_2.1 6)), u_2.2.1, u_2.2.2.1, u_2.2.2.2) := ⟨p102442, p102443, p102444, p102445, q102433.2.2.2.2.1, q102433.2.2.2.2.2.1, q102433.2.2.2.2.2.2.1, q102433.2.2.2.2.2.2.2⟩
    have p102447 : ie [6, 8] (va_up (va_up u_2.1 8 0) 9 (u_2.1 6)) (va_up (va_up u_2.1 8 0) 9 (u_2.1 6)) := (ie_refl _ _)
    have p102448 : 0 ≤ (u_2.1 6).toInt ∧ (u_2.1 6).toInt ≤ N ∧ ((u_2.1 6).toInt) ≤ (u_2.1 6).toInt := by omega
    have p102449 : (x1).toInt = ((x1).toInt) := by omega
    have p102450 : (x2).toInt = ((x2).toInt) := by omega
    have p102451 : u_2.2 = u_2.2 := rfl
    obtain ⟨f102452, g102453⟩ := fu_e 500
    have p102454 : N - (u_2.1 6).toInt < (f102452 : Int) := by (omega)
    refine ⟨f102452, wq_X7_readsNumber_L40 (fun t0 z1 z2 q102455 q102456 q102457 q102458 q102459 q102460 => ?_) f102452 _ _ _ B102446 p102447 p102448 p102449 p102450 p102451 p102454⟩
    have := q102455.1
    have := q102455.2.1
    refine wq_X7_in (fun r_14 q102461 => ?_)
    have := tq_64 z1
    have := tq_64 (t0.1 8)
    have := tq_64 z2
    refine ⟨fun c102462 => ?_, fun c102463 => ?_⟩
    · replace c102462 := q_neq c102462
      rw [li_0] at c102462
      have p102464 : ie [6, 7, 8, 9] t0.1 s0.1 := (ie_tr q102456 (by decide) (ie_up (ie_up (ie_tr q102434 (by decide) (ie_refl _ _)) (by decide)) (by decide)))
      have p102465 : (1 : Int32).toInt = 0 ∨ (1 : Int32).toInt = 1 := by (have := li_1; omega)
      have p102466 : (s0.1 6).toInt ≤ (t0.1 6).toInt ∧ (t0.1 6).toInt ≤ N := by omega
      have p102467 : (1 : Int32).toInt = 0 ∨ ((x1).toInt ≤ (t0.1 8).toInt ∧ (t0.1 8).toInt ≤ (x2).toInt) := by (have := li_1; omega)
      have p102468 : t0.2 = s0.2 := (q102460.trans q102437)
      exact k _ _ q102455 p102464 p102465 p102466 p102467 p102468
    · replace c102463 := q_eq c102463
      rw [li_0] at c102463
      refine wq_X7_fails q102455 (fun r_17 u_18 q102469 q102470 q102471 q102472 => ?_)
      have := q102469.1
      have := q102469.2.1
      refine ⟨fun c102473 => ?_, fun c102474 => ?_⟩
      · replace c102473 := q_eq c102473
        rw [li_0] at c102473
        have p102475 : ie [6, 7, 8, 9] u_18.1 s0.1 := (ie_tr q102470 (by decide) (ie_tr q102456 (by decide) (ie_up (ie_up (ie_tr q102434 (by decide) (ie_refl _ _)) (by decide)) (by decide))))
        have p102476 : (0 : Int32).toInt = 0 ∨ (0 : Int32).toInt = 1 := by (have := li_0; omega)
        have : (u_18.1 6).toInt = (t0.1 6).toInt := ie_i q102470 6 (by decide)
        have p102477 : (s0.1 6).toInt ≤ (u_18.1 6).toInt ∧ (u_18.1 6).toInt ≤ N := by omega
        have : (u_18.1 8).toInt = (t0.1 8).toInt := ie_i q102470 8 (by decide)
        have p102478 : (0 : Int32).toInt = 0 ∨ ((x1).toInt ≤ (u_18.1 8).toInt ∧ (u_18.1 8).toInt ≤ (x2).toInt) := by (have := li_0; omega)
        have p102479 : u_18.2 = s0.2 := (q102472.trans (q102460.trans q102437))
        exact k _ _ q102469 p102475 p102476 p102477 p102478 p102479
      · replace c102474 := q_neq c102474
        rw [li_0] at c102474
        have p102480 : ie [6, 7, 8, 9] u_18.1 s0.1 := (ie_tr q102470 (by decide) (ie_tr q102456 (by decide) (ie_up (ie_up (ie_tr q102434 (by decide) (ie_refl _ _)) (by decide)) (by decide))))
        have p102481 : (1 : Int32).toInt = 0 ∨ (1 : Int32).toInt = 1 := by (have := li_1; omega)
        have : (u_18.1 6).toInt = (t0.1 6).toInt := ie_i q102470 6 (by decide)
        have p102482 : (s0.1 6).toInt ≤ (u_18.1 6).toInt ∧ (u_18.1 6).toInt ≤ N := by omega
        have : (u_18.1 8).toInt = (t0.1 8).toInt := ie_i q102470 8 (by decide)
        have p102483 : (1 : Int32).toInt = 0 ∨ ((x1).toInt ≤ (u_18.1 8).toInt ∧ (u_18.1 8).toInt ≤ (x2).toInt) := by (have := li_1; omega)
        have p102484 : u_18.2 = s0.2 := (q102472.trans (q102460.trans q102437))
        exact k _ _ q102469 p102480 p102481 p102482 p102483 p102484
  · replace c102441 := q_eq c102441
    rw [li_0] at c102441
    refine wq_X7_fails q102433 (fun r_20 u_21 q102485 q102486 q102487 q102488 => ?_)
    have := q102485.1
    have := q102485.2.1
    refine ⟨(nb_b (by omega)), ?_⟩
    have p102489 : ie [6, 7, 8, 9] u_21.1 s0.1 := (ie_tr q102486 (by decide) (ie_tr q102434 (by decide) (ie_refl _ _)))
    have p102490 : (r_20).toInt = 0 ∨ (r_20).toInt = 1 := by omega
    have : (u_21.1 6).toInt = (u_2.1 6).toInt := ie_i q102486 6 (by decide)
    have p102491 : (s0.1 6).toInt ≤ (u_21.1 6).toInt ∧ (u_21.1 6).toInt ≤ N := by omega
    have : (u_21.1 8).toInt = (u_2.1 8).toInt := ie_i q102486 8 (by decide)
    have : (u_2.1 8).toInt = (s0.1 8).toInt := ie_i q102434 8 (by decide)
    have p102492 : (r_20).toInt = 0 ∨ ((x1).toInt ≤ (u_21.1 8).toInt ∧ (u_21.1 8).toInt ≤ (x2).toInt) := by omega
    have p102493 : u_21.2 = s0.2 := (q102488.trans q102437)
    exact k _ _ q102485 p102489 p102490 p102491 p102492 p102493
theorem wq_X7_readsQuoted_L24 {post : Int32 → Md → Prop} {e102 : Md → Int32 → Int32 → Prop} {N R W D G Y Z : Int} {A : Nat → Int32} {B : Int64 × (Nat → Nat → Int64) × (Nat → Nat → Int32)} (ke102 : ∀ (t0 : Md) (z1 : Int32) (z2 : Int32), t0.2 = B → mb (N) (R) (W) (D) t0 → ie [6, 11] t0.1 A → 0 ≤ (t0.1 10).toInt ∧ 0 ≤ (t0.1 11).toInt ∧ (t0.1 11).toInt ≤ (z2).toInt ∧ (t0.1 6).toInt = (t0.1 10).toInt + (t0.1 11).toInt ∧ (t0.1 6).toInt < N ∧ G ≤ (t0.1 6).toInt → (z1).toInt = Y → (z2).toInt = Z → e102 t0 z1 z2) (k : ∀ (r : Int32) (u : Md), mb (N) (R) (W) (D) u → ie [6, 7, 11] u.1 A → (r).toInt = 0 → G ≤ (u.1 6).toInt ∧ (u.1 6).toInt ≤ N → u.2 = B → post r u) : ∀ (n : Nat) (t0 : Md) (z1 : Int32) (z2 : Int32), mb (N) (R) (W) (D) t0 → ie [6, 11] t0.1 A → 0 ≤ (t0.1 10).toInt ∧ 0 ≤ (t0.1 11).toInt ∧ (t0.1 11).toInt ≤ (z2).toInt ∧ (t0.1 6).toInt = (t0.1 10).toInt + (t0.1 11).toInt ∧ (t0.1 6).toInt ≤ N ∧ G ≤ (t0.1 6).toInt → (z1).toInt = Y → (z2).toInt = Z → t0.2 = B → N - (t0.1 6).toInt < (n : Int) → wp_X7_readsQuoted_L24 post e102 n t0 z1 z2 := by
  intro n
  induction n with
  | zero =>
    intro t0 z1 z2 i102494 i102495 i102496 i102497 i102498 i102499 i102500
    have := i102494.1
    have := i102494.2.1
    have := i102494.2.2.1
    have := i102494.2.2.2.1
    have : (t0.1 10).toInt = (A 10).toInt := ie_i i102495 10 (by decide)
    exfalso
    omega
  | succ n ih =>
    intro t0 z1 z2 i102494 i102495 i102496 i102497 i102498 i102499 i102500
    unfold wp_X7_readsQuoted_L24
    have := i102494.1
    have := i102494.2.1
    have := i102494.2.2.1
    have := i102494.2.2.2.1
    have : (t0.1 10).toInt = (A 10).toInt := ie_i i102495 10 (by decide)
    have p102501 : 0 ≤ (t0.1 6).toInt := by omega
    refine wq_X7_byteAt i102494 p102501 (fun r_4 q102502 q102503 => ?_)
    refine ⟨fun c102504 => ?_, fun c102505 => ?_⟩
    · replace c102504 := q_eq c102504
      rw [li_39] at c102504
      have p102506 : t0.2 = B := i102499
      have p102507 : ie [6, 11] t0.1 A := (ie_tr i102495 (by decide) (ie_refl _ _))
      have p102508 : 0 ≤ (t0.1 10).toInt ∧ 0 ≤ (t0.1 11).toInt ∧ (t0.1 11).toInt ≤ (z2).toInt ∧ (t0.1 6).toInt = (t0.1 10).toInt + (t0.1 11).toInt ∧ (t0.1 6).toInt < N ∧ G ≤ (t0.1 6).toInt := by omega
      have p102509 : (z1).toInt = Y := by omega
      have p102510 : (z2).toInt = Z := by omega
      exact ke102 _ _ _ p102506 i102494 p102507 p102508 p102509 p102510
    · replace c102505 := q_neq c102505
      rw [li_39] at c102505
      have p102511 : 0 ≤ (t0.1 6).toInt := by omega
      refine wq_X7_byteAt i102494 p102511 (fun r_7 q102512 q102513 => ?_)
      refine wq_X7_isSign (fun r_9 q102514 => ?_)
      refine ⟨fun c102515 => ?_, fun c102516 => ?_⟩
      · replace c102515 := q_neq c102515
        rw [li_0] at c102515
        refine ⟨fun c102517 => ?_, fun c102518 => ?_⟩
        · replace c102517 := q_neq c102517
          have : (t0.1 5).toInt = (A 5).toInt := ie_i i102495 5 (by decide)
          have p102519 : (t0.1 5).toInt = N := by omega
          have : (t0.1 0).toInt = (A 0).toInt := ie_i i102495 0 (by decide)
          have p102520 : 0 ≤ (t0.1 0).toInt ∧ (t0.1 0).toInt ≤ 10 := by omega
          have p102521 : 0 ≤ N ∧ N ≤ 400 := by omega
          have p102522 : 0 ≤ R ∧ R ≤ 6 ∧ 0 ≤ W ∧ W ≤ 10 ∧ 0 ≤ R * W ∧ R * W ≤ 40 ∧ 0 ≤ D ∧ D ≤ 4 ∧ (D ≤ 0 ∨ 1 ≤ R) ∧ (1 ≤ R ∨ R * W = 0) := by omega
          have B102523 : mb (N) (R) (W) (D) ((va_up (va_up t0.1 6 ((t0.1 6) + 1)) 11 ((t0.1 11) + 1)), t0.2.1, t0.2.2.1, t0.2.2.2) := ⟨p102519, p102520, p102521, p102522, i102494.2.2.2.2.1, i102494.2.2.2.2.2.1, i102494.2.2.2.2.2.2.1, i102494.2.2.2.2.2.2.2⟩
          have p102524 : ie [6, 11] (va_up (va_up t0.1 6 ((t0.1 6) + 1)) 11 ((t0.1 11) + 1)) A := (ie_up (ie_up (ie_tr i102495 (by decide) (ie_refl _ _)) (by decide)) (by decide))
          have e102525 := tq_addr li_1 (t0.1 11)
          try rw [Int.emod_eq_of_lt (show 0 ≤ (t0.1 11).toInt + 1 + 2147483648 by omega) (show (t0.1 11).toInt + 1 + 2147483648 < 4294967296 by omega)] at e102525
          have e102526 := tq_addr li_1 (t0.1 6)
          try rw [Int.emod_eq_of_lt (show 0 ≤ (t0.1 6).toInt + 1 + 2147483648 by omega) (show (t0.1 6).toInt + 1 + 2147483648 < 4294967296 by omega)] at e102526
          have p102527 : 0 ≤ (t0.1 10).toInt ∧ 0 ≤ ((t0.1 11) + 1).toInt ∧ ((t0.1 11) + 1).toInt ≤ (z2).toInt ∧ ((t0.1 6) + 1).toInt = (t0.1 10).toInt + ((t0.1 11) + 1).toInt ∧ ((t0.1 6) + 1).toInt ≤ N ∧ G ≤ ((t0.1 6) + 1).toInt := by omega
          have p102528 : (z1).toInt = Y := by omega
          have p102529 : (z2).toInt = Z := by omega
          have p102530 : t0.2 = B := i102499
          have p102531 : N - ((t0.1 6) + 1).toInt < ((n : Nat) : Int) := by (omega)
          exact ih _ _ _ B102523 p102524 p102527 p102528 p102529 p102530 p102531
        · replace c102518 := q_eq c102518
          refine wq_X7_fails i102494 (fun r_13 u_14 q102532 q102533 q102534 q102535 => ?_)
          have := q102532.1
          have := q102532.2.1
          refine ⟨(nb_b (by omega)), ?_⟩
          have p102536 : ie [6, 7, 11] u_14.1 A := (ie_tr q102533 (by decide) (ie_tr i102495 (by decide) (ie_refl _ _)))
          have p102537 : (r_13).toInt = 0 := by omega
          have : (u_14.1 6).toInt = (t0.1 6).toInt := ie_i q102533 6 (by decide)
          have p102538 : G ≤ (u_14.1 6).toInt ∧ (u_14.1 6).toInt ≤ N := by omega
          have p102539 : u_14.2 = B := (q102535.trans i102499)
          exact k _ _ q102532 p102536 p102537 p102538 p102539
      · replace c102516 := q_eq c102516
        rw [li_0] at c102516
        refine wq_X7_fails i102494 (fun r_16 u_17 q102540 q102541 q102542 q102543 => ?_)
        have := q102540.1
        have := q102540.2.1
        refine ⟨(nb_b (by omega)), ?_⟩
        have p102544 : ie [6, 7, 11] u_17.1 A := (ie_tr q102541 (by decide) (ie_tr i102495 (by decide) (ie_refl _ _)))
        have p102545 : (r_16).toInt = 0 := by omega
        have : (u_17.1 6).toInt = (t0.1 6).toInt := ie_i q102541 6 (by decide)
        have p102546 : G ≤ (u_17.1 6).toInt ∧ (u_17.1 6).toInt ≤ N := by omega
        have p102547 : u_17.2 = B := (q102543.trans i102499)
        exact k _ _ q102540 p102544 p102545 p102546 p102547
theorem wq_X7_readsQuoted {post : Int32 → Md → Prop} {s0 : Md} {x1 : Int32} {x2 : Int32} {N R W D : Int} (h102548 : mb (N) (R) (W) (D) s0) (h102549 : 0 ≤ (s0.1 6).toInt ∧ (s0.1 6).toInt ≤ N) (h102550 : 0 ≤ (x2).toInt) (k : ∀ (r : Int32) (u : Md), mb (N) (R) (W) (D) u → ie [6, 7, 10, 11] u.1 s0.1 → (r).toInt = 0 ∨ (r).toInt = 1 → (s0.1 6).toInt ≤ (u.1 6).toInt ∧ (u.1 6).toInt ≤ N → (r).toInt = 0 ∨ (0 ≤ (u.1 10).toInt ∧ 0 ≤ (u.1 11).toInt ∧ (u.1 10).toInt + (u.1 11).toInt ≤ N ∧ (x1).toInt ≤ (u.1 11).toInt ∧ (u.1 11).toInt ≤ (x2).toInt) → u.2 = s0.2 → post r u) : wp_X7_readsQuoted post s0 x1 x2 := by
  unfold wp_X7_readsQuoted
  have := h102548.1
  have := h102548.2.1
  have := h102548.2.2.1
  have := h102548.2.2.2.1
  have p102551 : 0 ≤ (s0.1 6).toInt ∧ (s0.1 6).toInt ≤ N := by omega
  have p102552 : ¬ ((39 : Int32)).toInt = -1 := by (have := li_39; omega)
  refine wq_X7_mustByte h102548 p102551 p102552 (fun r_1 u_2 q102553 q102554 q102555 q102556 q102557 q102558 => ?_)
  have := q102553.1
  have := q102553.2.1
  refine ⟨fun c102559 => ?_, fun c102560 => ?_⟩
  · replace c102559 := q_neq c102559
    rw [li_0] at c102559
    have : (u_2.1 5).toInt = (s0.1 5).toInt := ie_i q102554 5 (by decide)
    have p102561 : (u_2.1 5).toInt = N := by omega
    have : (u_2.1 0).toInt = (s0.1 0).toInt := ie_i q102554 0 (by decide)
    have p102562 : 0 ≤ (u_2.1 0).toInt ∧ (u_2.1 0).toInt ≤ 10 := by omega
    have p102563 : 0 ≤ N ∧ N ≤ 400 := by omega
    have p102564 : 0 ≤ R ∧ R ≤ 6 ∧ 0 ≤ W ∧ W ≤ 10 ∧ 0 ≤ R * W ∧ R * W ≤ 40 ∧ 0 ≤ D ∧ D ≤ 4 ∧ (D ≤ 0 ∨ 1 ≤ R) ∧ (1 ≤ R ∨ R * W = 0) := by omega
    have B102565 : mb (N) (R) (W) (D) ((va_up (va_up u_2.1 10 (u_2.1 6)) 11 0), u_2.2.1, u_2.2.2.1, u_2.2.2.2) := ⟨p102561, p102562, p102563, p102564, q102553.2.2.2.2.1, q102553.2.2.2.2.2.1, q102553.2.2.2.2.2.2.1, q102553.2.2.2.2.2.2.2⟩
    have p102566 : ie [6, 11] (va_up (va_up u_2.1 10 (u_2.1 6)) 11 0) (va_up (va_up u_2.1 10 (u_2.1 6)) 11 0) := (ie_refl _ _)
    have p102567 : 0 ≤ (u_2.1 6).toInt ∧ 0 ≤ (0 : Int32).toInt ∧ (0 : Int32).toInt ≤ (x2).toInt ∧ (u_2.1 6).toInt = (u_2.1 6).toInt + (0 : Int32).toInt ∧ (u_2.1 6).toInt ≤ N ∧ ((u_2.1 6).toInt) ≤ (u_2.1 6).toInt := by (have := li_0; omega)
    have p102568 : (x1).toInt = ((x1).toInt) := by omega
    have p102569 : (x2).toInt = ((x2).toInt) := by omega
    have p102570 : u_2.2 = u_2.2 := rfl
    obtain ⟨f102571, g102572⟩ := fu_e 500
    have p102573 : N - (u_2.1 6).toInt < (f102571 : Int) := by (omega)
    refine ⟨f102571, wq_X7_readsQuoted_L24 (fun t0 z1 z2 q102574 q102575 q102576 q102577 q102578 q102579 => ?_) (fun r102580 u102581 q102582 q102583 q102584 q102585 q102586 => ?_) f102571 _ _ _ B102565 p102566 p102567 p102568 p102569 p102570 p102573⟩
    · have := q102575.1
      have := q102575.2.1
      have : (t0.1 10).toInt = (u_2.1 6).toInt := ie_i q102576 10 (by decide)
      refine ⟨fun c102587 => ?_, fun c102588 => ?_⟩
      · replace c102587 := q_le c102587
        have : (t0.1 5).toInt = (u_2.1 5).toInt := ie_i q102576 5 (by decide)
        have p102589 : (t0.1 5).toInt = N := by omega
        have : (t0.1 0).toInt = (u_2.1 0).toInt := ie_i q102576 0 (by decide)
        have p102590 : 0 ≤ (t0.1 0).toInt ∧ (t0.1 0).toInt ≤ 10 := by omega
        have p102591 : 0 ≤ N ∧ N ≤ 400 := by omega
        have p102592 : 0 ≤ R ∧ R ≤ 6 ∧ 0 ≤ W ∧ W ≤ 10 ∧ 0 ≤ R * W ∧ R * W ≤ 40 ∧ 0 ≤ D ∧ D ≤ 4 ∧ (D ≤ 0 ∨ 1 ≤ R) ∧ (1 ≤ R ∨ R * W = 0) := by omega
        have B102593 : mb (N) (R) (W) (D) ((va_up t0.1 6 ((t0.1 6) + 1)), t0.2.1, t0.2.2.1, t0.2.2.2) := ⟨p102589, p102590, p102591, p102592, q102575.2.2.2.2.1, q102575.2.2.2.2.2.1, q102575.2.2.2.2.2.2.1, q102575.2.2.2.2.2.2.2⟩
        have p102594 : ie [6, 7, 10, 11] (va_up t0.1 6 ((t0.1 6) + 1)) s0.1 := (ie_up (ie_tr q102576 (by decide) (ie_up (ie_up (ie_tr q102554 (by decide) (ie_refl _ _)) (by decide)) (by decide))) (by decide))
        have p102595 : (1 : Int32).toInt = 0 ∨ (1 : Int32).toInt = 1 := by (have := li_1; omega)
        have e102596 := tq_addr li_1 (t0.1 6)
        try rw [Int.emod_eq_of_lt (show 0 ≤ (t0.1 6).toInt + 1 + 2147483648 by omega) (show (t0.1 6).toInt + 1 + 2147483648 < 4294967296 by omega)] at e102596
        have p102597 : (s0.1 6).toInt ≤ ((t0.1 6) + 1).toInt ∧ ((t0.1 6) + 1).toInt ≤ N := by omega
        have p102598 : (1 : Int32).toInt = 0 ∨ (0 ≤ (t0.1 10).toInt ∧ 0 ≤ (t0.1 11).toInt ∧ (t0.1 10).toInt + (t0.1 11).toInt ≤ N ∧ (x1).toInt ≤ (t0.1 11).toInt ∧ (t0.1 11).toInt ≤ (x2).toInt) := by (have := li_1; omega)
        have p102599 : t0.2 = s0.2 := (q102574.trans q102557)
        exact k _ _ B102593 p102594 p102595 p102597 p102598 p102599
      · replace c102588 := q_nle c102588
        refine wq_X7_fails q102575 (fun r_20 u_21 q102600 q102601 q102602 q102603 => ?_)
        have := q102600.1
        have := q102600.2.1
        refine ⟨(nb_b (by omega)), ?_⟩
        have p102604 : ie [6, 7, 10, 11] u_21.1 s0.1 := (ie_tr q102601 (by decide) (ie_tr q102576 (by decide) (ie_up (ie_up (ie_tr q102554 (by decide) (ie_refl _ _)) (by decide)) (by decide))))
        have p102605 : (r_20).toInt = 0 ∨ (r_20).toInt = 1 := by omega
        have : (u_21.1 6).toInt = (t0.1 6).toInt := ie_i q102601 6 (by decide)
        have p102606 : (s0.1 6).toInt ≤ (u_21.1 6).toInt ∧ (u_21.1 6).toInt ≤ N := by omega
        have : (u_21.1 10).toInt = (t0.1 10).toInt := ie_i q102601 10 (by decide)
        have : (u_21.1 11).toInt = (t0.1 11).toInt := ie_i q102601 11 (by decide)
        have p102607 : (r_20).toInt = 0 ∨ (0 ≤ (u_21.1 10).toInt ∧ 0 ≤ (u_21.1 11).toInt ∧ (u_21.1 10).toInt + (u_21.1 11).toInt ≤ N ∧ (x1).toInt ≤ (u_21.1 11).toInt ∧ (u_21.1 11).toInt ≤ (x2).toInt) := by omega
        have p102608 : u_21.2 = s0.2 := (q102603.trans (q102574.trans q102557))
        exact k _ _ q102600 p102604 p102605 p102606 p102607 p102608
    · have := q102582.1
      have := q102582.2.1
      have p102609 : ie [6, 7, 10, 11] u102581.1 s0.1 := (ie_tr q102583 (by decide) (ie_up (ie_up (ie_tr q102554 (by decide) (ie_refl _ _)) (by decide)) (by decide)))
      have p102610 : (r102580).toInt = 0 ∨ (r102580).toInt = 1 := by omega
      have p102611 : (s0.1 6).toInt ≤ (u102581.1 6).toInt ∧ (u102581.1 6).toInt ≤ N := by omega
      have : (u102581.1 10).toInt = (u_2.1 6).toInt := ie_i q102583 10 (by decide)
      have p102612 : (r102580).toInt = 0 ∨ (0 ≤ (u102581.1 10).toInt ∧ 0 ≤ (u102581.1 11).toInt ∧ (u102581.1 10).toInt + (u102581.1 11).toInt ≤ N ∧ (x1).toInt ≤ (u102581.1 11).toInt ∧ (u102581.1 11).toInt ≤ (x2).toInt) := by omega
      have p102613 : u102581.2 = s0.2 := (q102586.trans q102557)
      exact k _ _ q102582 p102609 p102610 p102611 p102612 p102613
  · replace c102560 := q_eq c102560
    rw [li_0] at c102560
    have p102614 : ie [6, 7, 10, 11] u_2.1 s0.1 := (ie_tr q102554 (by decide) (ie_refl _ _))
    have p102615 : (0 : Int32).toInt = 0 ∨ (0 : Int32).toInt = 1 := by (have := li_0; omega)
    have p102616 : (s0.1 6).toInt ≤ (u_2.1 6).toInt ∧ (u_2.1 6).toInt ≤ N := by omega
    have : (u_2.1 10).toInt = (s0.1 10).toInt := ie_i q102554 10 (by decide)
    have : (u_2.1 11).toInt = (s0.1 11).toInt := ie_i q102554 11 (by decide)
    have p102617 : (0 : Int32).toInt = 0 ∨ (0 ≤ (u_2.1 10).toInt ∧ 0 ≤ (u_2.1 11).toInt ∧ (u_2.1 10).toInt + (u_2.1 11).toInt ≤ N ∧ (x1).toInt ≤ (u_2.1 11).toInt ∧ (u_2.1 11).toInt ≤ (x2).toInt) := by (have := li_0; omega)
    have p102618 : u_2.2 = s0.2 := q102557
    exact k _ _ q102553 p102614 p102615 p102616 p102617 p102618
