theorem wq_X7_readsNumber {post : Int32 → Md → Prop} {s0 : Md} {x1 : Int32} {x2 : Int32} {N R W D : Int} (h102267 : mb (N) (R) (W) (D) s0) (h102268 : 0 ≤ (s0.1 6).toInt ∧ (s0.1 6).toInt ≤ N) (k : ∀ (r : Int32) (u : Md), mb (N) (R) (W) (D) u → ie [6, 7, 8, 9] u.1 s0.1 → (r).toInt = 0 ∨ (r).toInt = 1 → (s0.1 6).toInt ≤ (u.1 6).toInt ∧ (u.1 6).toInt ≤ N → (r).toInt = 0 ∨ ((x1).toInt ≤ (u.1 8).toInt ∧ (u.1 8).toInt ≤ (x2).toInt) → u.2 = s0.2 → post r u) : wp_X7_readsNumber post s0 x1 x2 := by
  unfold wp_X7_readsNumber
  have := h102267.1
  have := h102267.2.1
  have := h102267.2.2.1
  have := h102267.2.2.2.1
  have p102269 : 0 ≤ (s0.1 6).toInt ∧ (s0.1 6).toInt ≤ N := by omega
  refine wq_X7_nextByte h102267 p102269 (fun r_1 u_2 q102270 q102271 q102272 q102273 q102274 q102275 => ?_)
  have := q102270.1
  have := q102270.2.1
  refine wq_X7_in (fun r_3 q102276 => ?_)
  try simp only [lj_48, lj_57] at q102276
  have := tq_64 r_1
  refine ⟨fun c102277 => ?_, fun c102278 => ?_⟩
  · replace c102277 := q_neq c102277
    rw [li_0] at c102277
    have : (u_2.1 5).toInt = (s0.1 5).toInt := ie_i q102271 5 (by decide)
    have p102279 : (u_2.1 5).toInt = N := by omega
    have : (u_2.1 0).toInt = (s0.1 0).toInt := ie_i q102271 0 (by decide)
    have p102280 : 0 ≤ (u_2.1 0).toInt ∧ (u_2.1 0).toInt ≤ 10 := by omega
    have p102281 : 0 ≤ N ∧ N ≤ 400 := by omega
    have p102282 : 0 ≤ R ∧ R ≤ 6 ∧ 0 ≤ W ∧ W ≤ 10 ∧ 0 ≤ R * W ∧ R * W ≤ 40 ∧ 0 ≤ D ∧ D ≤ 4 ∧ (D ≤ 0 ∨ 1 ≤ R) ∧ (1 ≤ R ∨ R * W = 0) := by omega
    have B102283 : mb (N) (R) (W) (D) ((va_up (va_up u_2.1 8 0) 9 (u_2.1 6)), u_2.2.1, u_2.2.2.1, u_2.2.2.2) := ⟨p102279, p102280, p102281, p102282, q102270.2.2.2.2.1, q102270.2.2.2.2.2.1, q102270.2.2.2.2.2.2.1, q102270.2.2.2.2.2.2.2⟩
    have p102284 : ie [6, 8] (va_up (va_up u_2.1 8 0) 9 (u_2.1 6)) (va_up (va_up u_2.1 8 0) 9 (u_2.1 6)) := (ie_refl _ _)
    have p102285 : 0 ≤ (u_2.1 6).toInt ∧ (u_2.1 6).toInt ≤ N ∧ ((u_2.1 6).toInt) ≤ (u_2.1 6).toInt := by omega
    have p102286 : (x1).toInt = ((x1).toInt) := by omega
    have p102287 : (x2).toInt = ((x2).toInt) := by omega
    have p102288 : u_2.2 = u_2.2 := rfl
    obtain ⟨f102289, g102290⟩ := fu_e 500
    have p102291 : N - (u_2.1 6).toInt < (f102289 : Int) := by (omega)
    refine ⟨f102289, wq_X7_readsNumber_L40 (fun t0 z1 z2 q102292 q102293 q102294 q102295 q102296 q102297 => ?_) f102289 _ _ _ B102283 p102284 p102285 p102286 p102287 p102288 p102291⟩
    have := q102292.1
    have := q102292.2.1
    refine wq_X7_in (fun r_14 q102298 => ?_)
    have := tq_64 z1
    have := tq_64 (t0.1 8)
    have := tq_64 z2
    refine ⟨fun c102299 => ?_, fun c102300 => ?_⟩
    · replace c102299 := q_neq c102299
      rw [li_0] at c102299
      have p102301 : ie [6, 7, 8, 9] t0.1 s0.1 := (ie_tr q102293 (by decide) (ie_up (ie_up (ie_tr q102271 (by decide) (ie_refl _ _)) (by decide)) (by decide)))
      have p102302 : (1 : Int32).toInt = 0 ∨ (1 : Int32).toInt = 1 := by (have := li_1; omega)
      have p102303 : (s0.1 6).toInt ≤ (t0.1 6).toInt ∧ (t0.1 6).toInt ≤ N := by omega
      have p102304 : (1 : Int32).toInt = 0 ∨ ((x1).toInt ≤ (t0.1 8).toInt ∧ (t0.1 8).toInt ≤ (x2).toInt) := by (have := li_1; omega)
      have p102305 : t0.2 = s0.2 := (q102297.trans q102274)
      exact k _ _ q102292 p102301 p102302 p102303 p102304 p102305
    · replace c102300 := q_eq c102300
      rw [li_0] at c102300
      refine wq_X7_fails q102292 (fun r_17 u_18 q102306 q102307 q102308 q102309 => ?_)
      have := q102306.1
      have := q102306.2.1
      refine ⟨fun c102310 => ?_, fun c102311 => ?_⟩
      · replace c102310 := q_eq c102310
        rw [li_0] at c102310
        have p102312 : ie [6, 7, 8, 9] u_18.1 s0.1 := (ie_tr q102307 (by decide) (ie_tr q102293 (by decide) (ie_up (ie_up (ie_tr q102271 (by decide) (ie_refl _ _)) (by decide)) (by decide))))
        have p102313 : (0 : Int32).toInt = 0 ∨ (0 : Int32).toInt = 1 := by (have := li_0; omega)
        have : (u_18.1 6).toInt = (t0.1 6).toInt := ie_i q102307 6 (by decide)
        have p102314 : (s0.1 6).toInt ≤ (u_18.1 6).toInt ∧ (u_18.1 6).toInt ≤ N := by omega
        have : (u_18.1 8).toInt = (t0.1 8).toInt := ie_i q102307 8 (by decide)
        have p102315 : (0 : Int32).toInt = 0 ∨ ((x1).toInt ≤ (u_18.1 8).toInt ∧ (u_18.1 8).toInt ≤ (x2).toInt) := by (have := li_0; omega)
        have p102316 : u_18.2 = s0.2 := (q102309.trans (q102297.trans q102274))
        exact k _ _ q102306 p102312 p102313 p102314 p102315 p102316
      · replace c102311 := q_neq c102311
        rw [li_0] at c102311
        have p102317 : ie [6, 7, 8, 9] u_18.1 s0.1 := (ie_tr q102307 (by decide) (ie_tr q102293 (by decide) (ie_up (ie_up (ie_tr q102271 (by decide) (ie_refl _ _)) (by decide)) (by decide))))
        have p102318 : (1 : Int32).toInt = 0 ∨ (1 : Int32).toInt = 1 := by (have := li_1; omega)
        have : (u_18.1 6).toInt = (t0.1 6).toInt := ie_i q102307 6 (by decide)
        have p102319 : (s0.1 6).toInt ≤ (u_18.1 6).toInt ∧ (u_18.1 6).toInt ≤ N := by omega
        have : (u_18.1 8).toInt = (t0.1 8).toInt := ie_i q102307 8 (by decide)
        have p102320 : (1 : Int32).toInt = 0 ∨ ((x1).toInt ≤ (u_18.1 8).toInt ∧ (u_18.1 8).toInt ≤ (x2).toInt) := by (have := li_1; omega)
        have p102321 : u_18.2 = s0.2 := (q102309.trans (q102297.trans q102274))
        exact k _ _ q102306 p102317 p102318 p102319 p102320 p102321
  · replace c102278 := q_eq c102278
    rw [li_0] at c102278
    refine wq_X7_fails q102270 (fun r_20 u_21 q102322 q102323 q102324 q102325 => ?_)
    have := q102322.1
    have := q102322.2.1
    refine ⟨(nb_b (by omega)), ?_⟩
    have p102326 : ie [6, 7, 8, 9] u_21.1 s0.1 := (ie_tr q102323 (by decide) (ie_tr q102271 (by decide) (ie_refl _ _)))
    have p102327 : (r_20).toInt = 0 ∨ (r_20).toInt = 1 := by omega
    have : (u_21.1 6).toInt = (u_2.1 6).toInt := ie_i q102323 6 (by decide)
    have p102328 : (s0.1 6).toInt ≤ (u_21.1 6).toInt ∧ (u_21.1 6).toInt ≤ N := by omega
    have : (u_21.1 8).toInt = (u_2.1 8).toInt := ie_i q102323 8 (by decide)
    have : (u_2.1 8).toInt = (s0.1 8).toInt := ie_i q102271 8 (by decide)
    have p102329 : (r_20).toInt = 0 ∨ ((x1).toInt ≤ (u_21.1 8).toInt ∧ (u_21.1 8).toInt ≤ (x2).toInt) := by omega
    have p102330 : u_21.2 = s0.2 := (q102325.trans q102274)
    exact k _ _ q102322 p102326 p102327 p102328 p102329 p102330
theorem wq_X7_readsQuoted_L24 {post : Int32 → Md → Prop} {e102 : Md → Int32 → Int32 → Prop} {N R W D G Y Z : Int} {A : Nat → Int32} {B : Int64 × (Nat → Nat → Int64) × (Nat → Nat → Int32)} (ke102 : ∀ (t0 : Md) (z1 : Int32) (z2 : Int32), t0.2 = B → mb (N) (R) (W) (D) t0 → ie [6, 11] t0.1 A → 0 ≤ (t0.1 10).toInt ∧ 0 ≤ (t0.1 11).toInt ∧ (t0.1 11).toInt ≤ (z2).toInt ∧ (t0.1 6).toInt = (t0.1 10).toInt + (t0.1 11).toInt ∧ (t0.1 6).toInt < N ∧ G ≤ (t0.1 6).toInt → (z1).toInt = Y → (z2).toInt = Z → e102 t0 z1 z2) (k : ∀ (r : Int32) (u : Md), mb (N) (R) (W) (D) u → ie [6, 7, 11] u.1 A → (r).toInt = 0 → G ≤ (u.1 6).toInt ∧ (u.1 6).toInt ≤ N → u.2 = B → post r u) : ∀ (n : Nat) (t0 : Md) (z1 : Int32) (z2 : Int32), mb (N) (R) (W) (D) t0 → ie [6, 11] t0.1 A → 0 ≤ (t0.1 10).toInt ∧ 0 ≤ (t0.1 11).toInt ∧ (t0.1 11).toInt ≤ (z2).toInt ∧ (t0.1 6).toInt = (t0.1 10).toInt + (t0.1 11).toInt ∧ (t0.1 6).toInt ≤ N ∧ G ≤ (t0.1 6).toInt → (z1).toInt = Y → (z2).toInt = Z → t0.2 = B → N - (t0.1 6).toInt < (n : Int) → wp_X7_readsQuoted_L24 post e102 n t0 z1 z2 := by
  intro n
  induction n with
  | zero =>
    intro t0 z1 z2 i102331 i102332 i102333 i102334 i102335 i102336 i102337
    have := i102331.1
    have := i102331.2.1
    have := i102331.2.2.1
    have := i102331.2.2.2.1
    have : (t0.1 10).toInt = (A 10).toInt := ie_i i102332 10 (by decide)
    exfalso
    omega
  | succ n ih =>
    intro t0 z1 z2 i102331 i102332 i102333 i102334 i102335 i102336 i102337
    unfold wp_X7_readsQuoted_L24
    have := i102331.1
    have := i102331.2.1
    have := i102331.2.2.1
    have := i102331.2.2.2.1
    have : (t0.1 10).toInt = (A 10).toInt := ie_i i102332 10 (by decide)
    have p102338 : 0 ≤ (t0.1 6).toInt := by omega
    refine wq_X7_byteAt i102331 p102338 (fun r_4 q102339 q102340 => ?_)
    refine ⟨fun c102341 => ?_, fun c102342 => ?_⟩
    · replace c102341 := q_eq c102341
      rw [li_39] at c102341
      have p102343 : t0.2 = B := i102336
      have p102344 : ie [6, 11] t0.1 A := (ie_tr i102332 (by decide) (ie_refl _ _))
      have p102345 : 0 ≤ (t0.1 10).toInt ∧ 0 ≤ (t0.1 11).toInt ∧ (t0.1 11).toInt ≤ (z2).toInt ∧ (t0.1 6).toInt = (t0.1 10).toInt + (t0.1 11).toInt ∧ (t0.1 6).toInt < N ∧ G ≤ (t0.1 6).toInt := by omega
      have p102346 : (z1).toInt = Y := by omega
      have p102347 : (z2).toInt = Z := by omega
      exact ke102 _ _ _ p102343 i102331 p102344 p102345 p102346 p102347
    · replace c102342 := q_neq c102342
      rw [li_39] at c102342
      have p102348 : 0 ≤ (t0.1 6).toInt := by omega
      refine wq_X7_byteAt i102331 p102348 (fun r_7 q102349 q102350 => ?_)
      refine wq_X7_isSign (fun r_9 q102351 => ?_)
      refine ⟨fun c102352 => ?_, fun c102353 => ?_⟩
      · replace c102352 := q_neq c102352
        rw [li_0] at c102352
        refine ⟨fun c102354 => ?_, fun c102355 => ?_⟩
        · replace c102354 := q_neq c102354
          have : (t0.1 5).toInt = (A 5).toInt := ie_i i102332 5 (by decide)
          have p102356 : (t0.1 5).toInt = N := by omega
          have : (t0.1 0).toInt = (A 0).toInt := ie_i i102332 0 (by decide)
          have p102357 : 0 ≤ (t0.1 0).toInt ∧ (t0.1 0).toInt ≤ 10 := by omega
          have p102358 : 0 ≤ N ∧ N ≤ 400 := by omega
          have p102359 : 0 ≤ R ∧ R ≤ 6 ∧ 0 ≤ W ∧ W ≤ 10 ∧ 0 ≤ R * W ∧ R * W ≤ 40 ∧ 0 ≤ D ∧ D ≤ 4 ∧ (D ≤ 0 ∨ 1 ≤ R) ∧ (1 ≤ R ∨ R * W = 0) := by omega
          have B102360 : mb (N) (R) (W) (D) ((va_up (va_up t0.1 6 ((t0.1 6) + 1)) 11 ((t0.1 11) + 1)), t0.2.1, t0.2.2.1, t0.2.2.2) := ⟨p102356, p102357, p102358, p102359, i102331.2.2.2.2.1, i102331.2.2.2.2.2.1, i102331.2.2.2.2.2.2.1, i102331.2.2.2.2.2.2.2⟩
          have p102361 : ie [6, 11] (va_up (va_up t0.1 6 ((t0.1 6) + 1)) 11 ((t0.1 11) + 1)) A := (ie_up (ie_up (ie_tr i102332 (by decide) (ie_refl _ _)) (by decide)) (by decide))
          have e102362 := tq_addr li_1 (t0.1 11)
          try rw [Int.emod_eq_of_lt (show 0 ≤ (t0.1 11).toInt + 1 + 2147483648 by omega) (show (t0.1 11).toInt + 1 + 2147483648 < 4294967296 by omega)] at e102362
          have e102363 := tq_addr li_1 (t0.1 6)
          try rw [Int.emod_eq_of_lt (show 0 ≤ (t0.1 6).toInt + 1 + 2147483648 by omega) (show (t0.1 6).toInt + 1 + 2147483648 < 4294967296 by omega)] at e102363
          have p102364 : 0 ≤ (t0.1 10).toInt ∧ 0 ≤ ((t0.1 11) + 1).toInt ∧ ((t0.1 11) + 1).toInt ≤ (z2).toInt ∧ ((t0.1 6) + 1).toInt = (t0.1 10).toInt + ((t0.1 11) + 1).toInt ∧ ((t0.1 6) + 1).toInt ≤ N ∧ G ≤ ((t0.1 6) + 1).toInt := by omega
          have p102365 : (z1).toInt = Y := by omega
          have p102366 : (z2).toInt = Z := by omega
          have p102367 : t0.2 = B := i102336
          have p102368 : N - ((t0.1 6) + 1).toInt < ((n : Nat) : Int) := by (omega)
          exact ih _ _ _ B102360 p102361 p102364 p102365 p102366 p102367 p102368
        · replace c102355 := q_eq c102355
          refine wq_X7_fails i102331 (fun r_13 u_14 q102369 q102370 q102371 q102372 => ?_)
          have := q102369.1
          have := q102369.2.1
          refine ⟨(nb_b (by omega)), ?_⟩
          have p102373 : ie [6, 7, 11] u_14.1 A := (ie_tr q102370 (by decide) (ie_tr i102332 (by decide) (ie_refl _ _)))
          have p102374 : (r_13).toInt = 0 := by omega
          have : (u_14.1 6).toInt = (t0.1 6).toInt := ie_i q102370 6 (by decide)
          have p102375 : G ≤ (u_14.1 6).toInt ∧ (u_14.1 6).toInt ≤ N := by omega
          have p102376 : u_14.2 = B := (q102372.trans i102336)
          exact k _ _ q102369 p102373 p102374 p102375 p102376
      · replace c102353 := q_eq c102353
        rw [li_0] at c102353
        refine wq_X7_fails i102331 (fun r_16 u_17 q102377 q102378 q102379 q102380 => ?_)
        have := q102377.1
        have := q102377.2.1
        refine ⟨(nb_b (by omega)), ?_⟩
        have p102381 : ie [6, 7, 11] u_17.1 A := (ie_tr q102378 (by decide) (ie_tr i102332 (by decide) (ie_refl _ _)))
        have p102382 : (r_16).toInt = 0 := by omega
        have : (u_17.1 6).toInt = (t0.1 6).toInt := ie_i q102378 6 (by decide)
        have p102383 : G ≤ (u_17.1 6).toInt ∧ (u_17.1 6).toInt ≤ N := by omega
        have p102384 : u_17.2 = B := (q102380.trans i102336)
        exact k _ _ q102377 p102381 p102382 p102383 p102384
theorem wq_X7_readsQuoted {post : Int32 → Md → Prop} {s0 : Md} {x1 : Int32} {x2 : Int32} {N R W D : Int} (h102385 : mb (N) (R) (W) (D) s0) (h102386 : 0 ≤ (s0.1 6).toInt ∧ (s0.1 6).toInt ≤ N) (h102387 : 0 ≤ (x2).toInt) (k : ∀ (r : Int32) (u : Md), mb (N) (R) (W) (D) u → ie [6, 7, 10, 11] u.1 s0.1 → (r).toInt = 0 ∨ (r).toInt = 1 → (s0.1 6).toInt ≤ (u.1 6).toInt ∧ (u.1 6).toInt ≤ N → (r).toInt = 0 ∨ (0 ≤ (u.1 10).toInt ∧ 0 ≤ (u.1 11).toInt ∧ (u.1 10).toInt + (u.1 11).toInt ≤ N ∧ (x1).toInt ≤ (u.1 11).toInt ∧ (u.1 11).toInt ≤ (x2).toInt) → u.2 = s0.2 → post r u) : wp_X7_readsQuoted post s0 x1 x2 := by
  unfold wp_X7_readsQuoted
  have := h102385.1
  have := h102385.2.1
  have := h102385.2.2.1
  have := h102385.2.2.2.1
  have p102388 : 0 ≤ (s0.1 6).toInt ∧ (s0.1 6).toInt ≤ N := by omega
  have p102389 : ¬ ((39 : Int32)).toInt = -1 := by (have := li_39; omega)
  refine wq_X7_mustByte h102385 p102388 p102389 (fun r_1 u_2 q102390 q102391 q102392 q102393 q102394 q102395 => ?_)
  have := q102390.1
  have := q102390.2.1
  refine ⟨fun c102396 => ?_, fun c102397 => ?_⟩
  · replace c102396 := q_neq c102396
    rw [li_0] at c102396
    have : (u_2.1 5).toInt = (s0.1 5).toInt := ie_i q102391 5 (by decide)
    have p102398 : (u_2.1 5).toInt = N := by omega
    have : (u_2.1 0).toInt = (s0.1 0).toInt := ie_i q102391 0 (by decide)
    have p102399 : 0 ≤ (u_2.1 0).toInt ∧ (u_2.1 0).toInt ≤ 10 := by omega
    have p102400 : 0 ≤ N ∧ N ≤ 400 := by omega
    have p102401 : 0 ≤ R ∧ R ≤ 6 ∧ 0 ≤ W ∧ W ≤ 10 ∧ 0 ≤ R * W ∧ R * W ≤ 40 ∧ 0 ≤ D ∧ D ≤ 4 ∧ (D ≤ 0 ∨ 1 ≤ R) ∧ (1 ≤ R ∨ R * W = 0) := by omega
    have B102402 : mb (N) (R) (W) (D) ((va_up (va_up u_2.1 10 (u_2.1 6)) 11 0), u_2.2.1, u_2.2.2.1, u_2.2.2.2) := ⟨p102398, p102399, p102400, p102401, q102390.2.2.2.2.1, q102390.2.2.2.2.2.1, q102390.2.2.2.2.2.2.1, q102390.2.2.2.2.2.2.2⟩
    have p102403 : ie [6, 11] (va_up (va_up u_2.1 10 (u_2.1 6)) 11 0) (va_up (va_up u_2.1 10 (u_2.1 6)) 11 0) := (ie_refl _ _)
    have p102404 : 0 ≤ (u_2.1 6).toInt ∧ 0 ≤ (0 : Int32).toInt ∧ (0 : Int32).toInt ≤ (x2).toInt ∧ (u_2.1 6).toInt = (u_2.1 6).toInt + (0 : Int32).toInt ∧ (u_2.1 6).toInt ≤ N ∧ ((u_2.1 6).toInt) ≤ (u_2.1 6).toInt := by (have := li_0; omega)
    have p102405 : (x1).toInt = ((x1).toInt) := by omega
    have p102406 : (x2).toInt = ((x2).toInt) := by omega
    have p102407 : u_2.2 = u_2.2 := rfl
    obtain ⟨f102408, g102409⟩ := fu_e 500
    have p102410 : N - (u_2.1 6).toInt < (f102408 : Int) := by (omega)
    refine ⟨f102408, wq_X7_readsQuoted_L24 (fun t0 z1 z2 q102411 q102412 q102413 q102414 q102415 q102416 => ?_) (fun r102417 u102418 q102419 q102420 q102421 q102422 q102423 => ?_) f102408 _ _ _ B102402 p102403 p102404 p102405 p102406 p102407 p102410⟩
    · have := q102412.1
      have := q102412.2.1
      have : (t0.1 10).toInt = (u_2.1 6).toInt := ie_i q102413 10 (by decide)
      refine ⟨fun c102424 => ?_, fun c102425 => ?_⟩
      · replace c102424 := q_le c102424
        have : (t0.1 5).toInt = (u_2.1 5).toInt := ie_i q102413 5 (by decide)
        have p102426 : (t0.1 5).toInt = N := by omega
        have : (t0.1 0).toInt = (u_2.1 0).toInt := ie_i q102413 0 (by decide)
        have p102427 : 0 ≤ (t0.1 0).toInt ∧ (t0.1 0).toInt ≤ 10 := by omega
        have p102428 : 0 ≤ N ∧ N ≤ 400 := by omega
        have p102429 : 0 ≤ R ∧ R ≤ 6 ∧ 0 ≤ W ∧ W ≤ 10 ∧ 0 ≤ R * W ∧ R * W ≤ 40 ∧ 0 ≤ D ∧ D ≤ 4 ∧ (D ≤ 0 ∨ 1 ≤ R) ∧ (1 ≤ R ∨ R * W = 0) := by omega
        have B102430 : mb (N) (R) (W) (D) ((va_up t0.1 6 ((t0.1 6) + 1)), t0.2.1, t0.2.2.1, t0.2.2.2) := ⟨p102426, p102427, p102428, p102429, q102412.2.2.2.2.1, q102412.2.2.2.2.2.1, q102412.2.2.2.2.2.2.1, q102412.2.2.2.2.2.2.2⟩
        have p102431 : ie [6, 7, 10, 11] (va_up t0.1 6 ((t0.1 6) + 1)) s0.1 := (ie_up (ie_tr q102413 (by decide) (ie_up (ie_up (ie_tr q102391 (by decide) (ie_refl _ _)) (by decide)) (by decide))) (by decide))
        have p102432 : (1 : Int32).toInt = 0 ∨ (1 : Int32).toInt = 1 := by (have := li_1; omega)
        have e102433 := tq_addr li_1 (t0.1 6)
        try rw [Int.emod_eq_of_lt (show 0 ≤ (t0.1 6).toInt + 1 + 2147483648 by omega) (show (t0.1 6).toInt + 1 + 2147483648 < 4294967296 by omega)] at e102433
        have p102434 : (s0.1 6).toInt ≤ ((t0.1 6) + 1).toInt ∧ ((t0.1 6) + 1).toInt ≤ N := by omega
        have p102435 : (1 : Int32).toInt = 0 ∨ (0 ≤ (t0.1 10).toInt ∧ 0 ≤ (t0.1 11).toInt ∧ (t0.1 10).toInt + (t0.1 11).toInt ≤ N ∧ (x1).toInt ≤ (t0.1 11).toInt ∧ (t0.1 11).toInt ≤ (x2).toInt) := by (have := li_1; omega)
        have p102436 : t0.2 = s0.2 := (q102411.trans q102394)
        exact k _ _ B102430 p102431 p102432 p102434 p102435 p102436
      · replace c102425 := q_nle c102425
        refine wq_X7_fails q102412 (fun r_20 u_21 q102437 q102438 q102439 q102440 => ?_)
        have := q102437.1
        have := q102437.2.1
        refine ⟨(nb_b (by omega)), ?_⟩
        have p102441 : ie [6, 7, 10, 11] u_21.1 s0.1 := (ie_tr q102438 (by decide) (ie_tr q102413 (by decide) (ie_up (ie_up (ie_tr q102391 (by decide) (ie_refl _ _)) (by decide)) (by decide))))
        have p102442 : (r_20).toInt = 0 ∨ (r_20).toInt = 1 := by omega
        have : (u_21.1 6).toInt = (t0.1 6).toInt := ie_i q102438 6 (by decide)
        have p102443 : (s0.1 6).toInt ≤ (u_21.1 6).toInt ∧ (u_21.1 6).toInt ≤ N := by omega
        have : (u_21.1 10).toInt = (t0.1 10).toInt := ie_i q102438 10 (by decide)
        have : (u_21.1 11).toInt = (t0.1 11).toInt := ie_i q102438 11 (by decide)
        have p102444 : (r_20).toInt = 0 ∨ (0 ≤ (u_21.1 10).toInt ∧ 0 ≤ (u_21.1 11).toInt ∧ (u_21.1 10).toInt + (u_21.1 11).toInt ≤ N ∧ (x1).toInt ≤ (u_21.1 11).toInt ∧ (u_21.1 11).toInt ≤ (x2).toInt) := by omega
        have p102445 : u_21.2 = s0.2 := (q102440.trans (q102411.trans q102394))
        exact k _ _ q102437 p102441 p102442 p102443 p102444 p102445
    · have := q102419.1
      have := q102419.2.1
      have p102446 : ie [6, 7, 10, 11] u102418.1 s0.1 := (ie_tr q102420 (by decide) (ie_up (ie_up (ie_tr q102391 (by decide) (ie_refl _ _)) (by decide)) (by decide)))
      have p102447 : (r102417).toInt = 0 ∨ (r102417).toInt = 1 := by omega
      have p102448 : (s0.1 6).toInt ≤ (u102418.1 6).toInt ∧ (u102418.1 6).toInt ≤ N := by omega
      have : (u102418.1 10).toInt = (u_2.1 6).toInt := ie_i q102420 10 (by decide)
      have p102449 : (r102417).toInt = 0 ∨ (0 ≤ (u102418.1 10).toInt ∧ 0 ≤ (u102418.1 11).toInt ∧ (u102418.1 10).toInt + (u102418.1 11).toInt ≤ N ∧ (x1).toInt ≤ (u102418.1 11).toInt ∧ (u102418.1 11).toInt ≤ (x2).toInt) := by omega
      have p102450 : u102418.2 = s0.2 := (q102423.trans q102394)
      exact k _ _ q102419 p102446 p102447 p102448 p102449 p102450
  · replace c102397 := q_eq c102397
    rw [li_0] at c102397
    have p102451 : ie [6, 7, 10, 11] u_2.1 s0.1 := (ie_tr q102391 (by decide) (ie_refl _ _))
    have p102452 : (0 : Int32).toInt = 0 ∨ (0 : Int32).toInt = 1 := by (have := li_0; omega)
    have p102453 : (s0.1 6).toInt ≤ (u_2.1 6).toInt ∧ (u_2.1 6).toInt ≤ N := by omega
    have : (u_2.1 10).toInt = (s0.1 10).toInt := ie_i q102391 10 (by decide)
    have : (u_2.1 11).toInt = (s0.1 11).toInt := ie_i q102391 11 (by decide)
    have p102454 : (0 : Int32).toInt = 0 ∨ (0 ≤ (u_2.1 10).toInt ∧ 0 ≤ (u_2.1 11).toInt ∧ (u_2.1 10).toInt + (u_2.1 11).toInt ≤ N ∧ (x1).toInt ≤ (u_2.1 11).toInt ∧ (u_2.1 11).toInt ≤ (x2).toInt) := by (have := li_0; omega)
    have p102455 : u_2.2 = s0.2 := q102394
    exact k _ _ q102390 p102451 p102452 p102453 p102454 p102455
