/-! tick, settle, wait: whole turnings on both sides. -/
theorem e7_idle {v : Md} {b : Bd} {P7 : Int32 → Md → Prop} {N R W D : Int} (hM : mb N R W D v) (hD : 0 < D) (hB : RB b (v.2.2.1 0)) (hI : IDL (v.2.2.1 0) R W) (h7 : wp_X7_ticks P7 v) : ∃ v', P7 0 v' ∧ v'.2.2.1 0 = v.2.2.1 0 ∧ mb N R W D v' ∧ TG v v' := by
  have hf := hM.2.2.2.2.1
  have hR := hf.2.2.2.2.2.1
  have e0 : (0 : Int32).toInt = 0 := rfl
  obtain ⟨k6, A6, u6, p6, q6⟩ := hI
  unfold wp_X7_ticks at h7
  have h7 := dt_conj (dt_X7_findsTurning v) h7 (wq_X7_findsTurningB (post := fun u => mb N R W D u) hM hD (fun u a _ _ => a))
  obtain ⟨w, ⟨⟨n7, h7⟩, mw⟩, w1, w2, w3, m7, k7, A7, p7, q7⟩ := e7_finds hf hD hB h7
  obtain ⟨eT, em, ec⟩ := PR_f (fun c hc => (CU_b hf hD hB (c := c) (by omega)).1) p6 q6 p7 q7
  have e1 : w.1 1 = 0 := Int32.toInt_inj.mp (by rw [e0]; omega)
  obtain ⟨v', z', h7, mv, fN, sv⟩ := e7_ticks_L (s := w) (f := v.2.2.1 0) (by rw [w2]) hf hD n7 w 0 mw (FN_rf w) (by decide) (by rw [e0]; omega) (by
    rw [w2]
    exact ⟨fun _ _ _ => rfl, fun c hc => ⟨fun g => (by have := g.2; rw [e0] at this; omega), fun _ _ _ => rfl⟩, ⟨(Int32.add_zero _).symm, (Int32.add_zero _).symm⟩, fun _ => rfl⟩) h7
  rw [← eT] at sv
  have f1 : v'.1 1 = 0 := by rw [fN.1, e1]
  exact ⟨v', h7.2 f1, sv.2.2.2 (fun _ _ => rfl), mv, ⟨by rw [fN.1]; exact w1 0 (by decide), by rw [fN.1]; exact w1 5 (by decide), by rw [fN.1]; exact w1⟩, by rw [fN.2.2.1 1 (by decide), w2], by rw [fN.2.2.1 2 (by decide), w2], by rw [fN.2.2.1 3 (by decide), w2], by rw [fN.2.2.2, w3]⟩
theorem sm_trn {post : Mo → Bd → Prop} {x2 : Int32} {s0 : Mo} {b : Bd} {v : Md} {N R W D : Int} (hM : mb N R W D v) (hD : 0 < D) (hB : RB b (v.2.2.1 0)) (hx : 0 ≤ x2.toInt) (hx2 : x2.toInt ≤ 9999) (h : wp_X2_turn post s0 b x2) : ∃ k t' b' v', post t' b' ∧ TT (fun _ => 0) v t'.1 v' k ∧ RB b' (v'.2.2.1 0) ∧ mb N R W D v' ∧ TG v v' ∧ (k : Int) ≤ x2.toInt ∧ ((k : Int) = x2.toInt ∨ IDL (v'.2.2.1 0) R W) := by
  unfold wp_X2_turn wp_X2_startCounting at h
  obtain ⟨n, h⟩ := h
  have e0 : (0 : Int32).toInt = 0 := rfl
  obtain ⟨k, t', b', v', r1, r2, r3, r4, r5, r6, r7⟩ := sm_trn_L hD hx2 n _ b v 0 hM hB (by decide) (by rw [e0]; exact hx) h
  rw [e0] at r6 r7
  refine ⟨k, t', b', v', r1, TT_c (fun i h1 h2 => ?_) r2, r3, r4, r5, by omega, ?_⟩
  · rcases (show i = 2 ∨ i = 3 ∨ i = 4 ∨ i = 5 ∨ i = 6 ∨ i = 7 ∨ i = 8 by omega) with rfl | rfl | rfl | rfl | rfl | rfl | rfl <;> rfl
  · rcases r7 with r7 | r7
    · exact Or.inl (by omega)
    · exact Or.inr r7
/-- settled: a bound of 9999 is never met -/
theorem sm_trnS {post : Mo → Bd → Prop} {s0 : Mo} {b : Bd} {v : Md} {N R W D : Int} (hM : mb N R W D v) (hD : 0 < D) (hB : RB b (v.2.2.1 0)) (h : wp_X2_turn post s0 b (9999 : Int32)) : ∃ k t' b' v', post t' b' ∧ TT (fun _ => 0) v t'.1 v' k ∧ RB b' (v'.2.2.1 0) ∧ mb N R W D v' ∧ TG v v' ∧ (k : Int) ≤ 3560 ∧ IDL (v'.2.2.1 0) R W := by
  have e9 : (9999 : Int32).toInt = 9999 := rfl
  obtain ⟨k, t', b', v', r1, r2, r3, r4, r5, r6, r7⟩ := sm_trn hM hD hB (by decide) (by decide) h
  have m1 := mu_b hM.2.2.2.2.1 hD 40 (by decide)
  have m2 := mu_b r4.2.2.2.2.1 hD 40 (by decide)
  have m3 := TT_mu r2
  refine ⟨k, t', b', v', r1, r2, r3, r4, r5, by omega, ?_⟩
  rcases r7 with r7 | r7
  · rw [e9] at r7
    omega
  · exact r7
theorem e7_tick_i {post : Int32 → Md → Prop} {b : Bd} {z1 z2 : Int32} {N R W D : Int} (hD : 0 < D) : ∀ (n : Nat) (v : Md) (z3 : Int32), mb N R W D v → RB b (v.2.2.1 0) → IDL (v.2.2.1 0) R W → wp_X7_tick_L29 post (fun t0 z1 z2 z3 => post z2 t0) n v z1 z2 z3 → ∃ v', post z2 v' ∧ v'.2.2.1 0 = v.2.2.1 0 ∧ mb N R W D v' ∧ TG v v' := by
  intro n
  induction n with
  | zero =>
    intro v z3 _ _ _ h
    exact (show False from h).elim
  | succ n ih =>
    intro v z3 hM hB hI h
    unfold wp_X7_tick_L29 at h
    by_cases c : z1 ≤ z3
    · exact ⟨v, h.1 c, rfl, hM, TG_rf v⟩
    · obtain ⟨v1, h, a1, a2, a3⟩ := e7_idle hM hD hB hI (h.2 c)
      rw [Int32.add_zero] at h
      obtain ⟨v', r1, r2, r3, r4⟩ := ih v1 (z3 + 1) a2 (by rw [a1]; exact hB) (by rw [a1]; exact hI) h
      exact ⟨v', r1, r2.trans a1, r3, TG_tr a3 r4⟩
theorem e7_tick_t {post : Int32 → Md → Prop} {e : Md → Int32 → Int32 → Int32 → Prop} {z1 : Int32} (hz : z1.toInt ≤ 9999) {a a' : Nat → Int32} {v v' : Md} {k : Nat} (ht : TT a v a' v' k) : ∀ (n : Nat) (z3 : Int32), 0 ≤ z3.toInt → z3.toInt + (k : Int) ≤ z1.toInt → wp_X7_tick_L29 post e n v z1 (a 3) z3 → ∃ n' z3', z3'.toInt = z3.toInt + (k : Int) ∧ wp_X7_tick_L29 post e n' v' z1 (a' 3) z3' := by
  have e1 : (1 : Int32).toInt = 1 := rfl
  refine TT_ind (M := fun a v a' v' k => ∀ (n : Nat) (z3 : Int32), 0 ≤ z3.toInt → z3.toInt + (k : Int) ≤ z1.toInt → wp_X7_tick_L29 post e n v z1 (a 3) z3 → ∃ n' z3', z3'.toInt = z3.toInt + (k : Int) ∧ wp_X7_tick_L29 post e n' v' z1 (a' 3) z3') (fun a a' v g => ?_) (fun a a' v v1 v' r fo k g t ih => ?_) k ht
  · intro n z3 _ _ h
    rw [g 3 (by decide) (by decide)]
    exact ⟨n, z3, by omega, h⟩
  · intro n z3 h0 h1 h
    cases n with
    | zero => exact (show False from h).elim
    | succ n =>
      unfold wp_X7_tick_L29 at h
      have s := nw (tq_addr e1 z3) (by omega)
      have h := g.1 _ (h.2 (fun c => by have := q_le c; omega))
      obtain ⟨n', z', r1, r2⟩ := ih n (z3 + 1) (by omega) (by omega) h
      exact ⟨n', z', by omega, r2⟩
theorem sm_tick {P6 : Int32 → Bd → Mo → Pa → Prop} {P7 : Int32 → Md → Prop} {s6 : Pa} {s2 : Bd} {s4 : Mo} {m : Md} {x1 : Int32} {N R W D : Int} (hp : pa s6) (hP : RP s6 m) (hB : RB s2 (m.2.2.1 0)) (hM : mb N R W D m) (hs : R ≤ 0 ∨ 0 < D) (h6 : wp_X6_tick P6 s2 s4 s6 x1) (h7 : wp_X7_tick P7 m x1) : ∃ r b t p m', P6 r b t p ∧ P7 r m' ∧ AR m m' b p := by
  have e0 : (0 : Int32).toInt = 0 := rfl
  have e1 : (1 : Int32).toInt = 1 := rfl
  have e99 : (99 : Int32).toInt = 99 := rfl
  have hf := hM.2.2.2.2.1
  have hR := hf.2.2.2.2.2.1
  have rc := RB_cells hf hB
  have fl : ∀ r, P6 r s2 s4 s6 → P7 r m → ∃ r b t p m', P6 r b t p ∧ P7 r m' ∧ AR m m' b p := fun r a b => ⟨r, s2, s4, s6, m, a, b, hB, hP, rfl, rfl⟩
  unfold wp_X6_tick at h6
  unfold wp_X7_tick at h7
  rcases e0_isThere h6 with ⟨h6, g⟩ | ⟨h6, g⟩
  · rcases e7_isBoard hf h7 with ⟨h7, hD⟩ | ⟨_, gD⟩
    · have h6 := h6.2 (by decide)
      rcases e7_inC (i := 1) (j := 99) rfl rfl (h7.2 (by decide)) with ⟨h7, j1, j2⟩ | ⟨h7, j⟩
      · have h6 := (h6.2 (fun c => by have := q_lt c; omega)).1 (Int32.le_iff_toInt_le.mpr (by omega))
        obtain ⟨p, u, h6, h7, q1, q2, q3, q4, q5, q6⟩ := sm_push hp hP hB hM hs h6 (h7.1 (by decide))
        have u0 : u.2.2.1 0 = m.2.2.1 0 := q6 0 (by decide)
        obtain ⟨n, h7⟩ := h7
        obtain ⟨k, t', b', v', r1, r2, r3, r4, r5, r6, r7⟩ := sm_trn q2 hD (by rw [u0]; exact hB) (by omega) (by omega) h6
        obtain ⟨n', z3, y1, y2⟩ := e7_tick_t (z1 := x1) (by omega) r2 n 0 (by decide) (by rw [e0]; omega) h7
        rw [e0] at y1
        have fin : ∀ w : Md, P7 (t'.1 3) w → w.2.2.1 0 = v'.2.2.1 0 → TG v' w → ∃ r b t p m', P6 r b t p ∧ P7 r m' ∧ AR m m' b p := fun w a b c => by
          have tg := TG_tr r5 c
          exact ⟨_, b', t', p, w, r1, a, by rw [b]; exact r3, RP_k q1 tg.1.1 tg.2.1, by rw [tg.2.2.2.2, q5], tg.2.2.1.trans (q6 2 (by decide))⟩
        rcases r7 with r7 | r7
        · cases n' with
          | zero => exact (show False from y2).elim
          | succ n' =>
            unfold wp_X7_tick_L29 at y2
            exact fin v' (y2.1 (Int32.le_iff_toInt_le.mpr (by omega))) rfl (TG_rf v')
        · obtain ⟨w, w1, w2, w3, w4⟩ := e7_tick_i (b := b') hD n' v' z3 r4 r3 r7 y2
          exact fin w w1 w2 w4
      · by_cases c : x1 < 1
        · exact fl _ (h6.1 c) (h7.2 rfl)
        · have := q_nlt c
          exact fl _ ((h6.2 c).2 (fun c => by have := q_le c; omega)) (h7.2 rfl)
    · omega
  · rcases e7_isBoard hf h7 with ⟨_, hD⟩ | ⟨h7, _⟩
    · omega
    · exact fl _ (h6.1 rfl) (h7.1 rfl)
theorem e7_settles_t {post : Int32 → Md → Prop} {e : Md → Int32 → Prop} {a a' : Nat → Int32} {v v' : Md} {k : Nat} (ht : TT a v a' v' k) : ∀ (n : Nat), wp_X7_settles_L2 post e n v (a 2) → ∃ n', wp_X7_settles_L2 post e n' v' (a' 2) := by
  have e0 : (0 : Int32).toInt = 0 := rfl
  refine TT_ind (M := fun a v a' v' k => ∀ (n : Nat), wp_X7_settles_L2 post e n v (a 2) → ∃ n', wp_X7_settles_L2 post e n' v' (a' 2)) (fun a a' v g => ?_) (fun a a' v v1 v' r fo k g t ih => ?_) k ht
  · intro n h
    rw [g 2 (by decide) (by decide)]
    exact ⟨n, h⟩
  · intro n h
    cases n with
    | zero => exact (show False from h).elim
    | succ n =>
      unfold wp_X7_settles_L2 at h
      have h := (g.1 _ h).2 (fun c => by have := q_le c; have := g.2.2.1; omega)
      exact ih n h
theorem sm_settles {P6 : Mo → Bd → Prop} {P7 : Int32 → Md → Prop} {b : Bd} {s4 : Mo} {v : Md} {N R W D : Int} (hM : mb N R W D v) (hD : 0 < D) (hB : RB b (v.2.2.1 0)) (h6 : wp_X2_turn P6 s4 b (9999 : Int32)) (h7 : wp_X7_settles P7 v) : ∃ t' b' v', P6 t' b' ∧ P7 (t'.1 2) v' ∧ RB b' (v'.2.2.1 0) ∧ mb N R W D v' ∧ TG v v' := by
  obtain ⟨k, t', b', v', r1, r2, r3, r4, r5, r6, r7⟩ := sm_trnS hM hD hB h6
  unfold wp_X7_settles at h7
  obtain ⟨n, h7⟩ := h7
  obtain ⟨n', h7⟩ := e7_settles_t r2 n h7
  cases n' with
  | zero => exact (show False from h7).elim
  | succ n' =>
    unfold wp_X7_settles_L2 at h7
    obtain ⟨w, w1, w2, w3, w4⟩ := e7_idle r4 hD r3 r7 h7
    exact ⟨t', b', w, r1, w1.1 (by decide), by rw [w2]; exact r3, w3, TG_tr r5 w4⟩
theorem sm_settle {P6 : Int32 → Bd → Mo → Pa → Prop} {P7 : Int32 → Md → Prop} {s6 : Pa} {s2 : Bd} {s4 : Mo} {m : Md} {N R W D : Int} (hp : pa s6) (hP : RP s6 m) (hB : RB s2 (m.2.2.1 0)) (hM : mb N R W D m) (hs : R ≤ 0 ∨ 0 < D) (h6 : wp_X6_settle P6 s2 s4 s6) (h7 : wp_X7_settle P7 m) : ∃ r b t p m', P6 r b t p ∧ P7 r m' ∧ AR m m' b p := by
  have e0 : (0 : Int32).toInt = 0 := rfl
  have hf := hM.2.2.2.2.1
  have hR := hf.2.2.2.2.2.1
  have rc := RB_cells hf hB
  unfold wp_X6_settle at h6
  unfold wp_X7_settle at h7
  rcases e0_isThere h6 with ⟨h6, g⟩ | ⟨h6, g⟩
  · rcases e7_isBoard hf h7 with ⟨h7, hD⟩ | ⟨_, gD⟩
    · have h6 := h6.1 (by decide)
      have h7 := h7.1 (by decide)
      obtain ⟨u, h6, i6, k6, A6, T6, ch, p6, q6⟩ := e2_choose hf hD hB h6
      have h7 := dt_conj (dt_X7_findsTurning m) h7 (wq_X7_findsTurningB (post := fun u => mb N R W D u) hM hD (fun u a _ _ => a))
      obtain ⟨w, ⟨h7, mw⟩, w1, w2, w3, m7, k7, A7, p7, q7⟩ := e7_finds hf hD hB h7
      obtain ⟨eT, em, ec⟩ := PR_f (fun c hc => (CU_b hf hD hB (c := c) (by omega)).1) p6 q6 p7 q7
      have e1 : w.1 1 = u.1 0 := Int32.toInt_inj.mp (by have := ch.1; omega)
      rw [e1] at h7
      have hP1 : RP s6 w := RP_k hP (w1 0 (by decide)) (by rw [w2])
      by_cases c : u.1 0 = 0
      · exact ⟨_, s2, u, s6, w, h6.2 c, h7.2 c, by rw [w2]; exact hB, hP1, by rw [w3], by rw [w2]⟩
      · obtain ⟨p, x, h6, h7, q1, q2, q3, q4, q5, q6⟩ := sm_push hp hP1 (by rw [w2]; exact hB) mw hs (h6.1 c) (h7.1 c)
        have u0 : x.2.2.1 0 = m.2.2.1 0 := by rw [q6 0 (by decide), w2]
        obtain ⟨t', b', v', r1, r2, r3, r4, r5⟩ := sm_settles q2 hD (by rw [u0]; exact hB) h6 h7
        exact ⟨_, b', t', p, v', r1, r2, r3, RP_k q1 r5.1.1 r5.2.1, by rw [r5.2.2.2.2, q5, w3], r5.2.2.1.trans ((q6 2 (by decide)).trans (by rw [w2]))⟩
    · omega
  · rcases e7_isBoard hf h7 with ⟨_, hD⟩ | ⟨h7, _⟩
    · omega
    · exact ⟨_, s2, s4, s6, m, h6.2 rfl, h7.2 rfl, hB, hP, rfl, rfl⟩

/-! The reference's recursion, its four levels as one. -/
def GO (T : ((Int32 → Md → Prop) → Md → Int32 → Prop)) (post : Int32 → Md → Prop) (s0 : Md) (x1 : Int32) : Prop := wp_X7_isWord (fun r_1 u_2 => ((r_1 = 0 → wp_X7_isWord (fun r_4 u_5 => ((r_4 = 0 → wp_X7_isWord (fun r_7 u_8 => ((r_7 = 0 → wp_X7_isWord (fun r_10 u_11 => ((r_10 = 0 → wp_X7_isWord (fun r_13 u_14 => ((r_13 = 0 → wp_X7_isWord (fun r_16 u_17 => ((r_16 = 0 → wp_X7_isWord (fun r_19 u_20 => ((r_19 = 0 → wp_X7_fails (fun r_22 u_23 => narrow .boolean (.int r_22) = .int r_22 ∧ post r_22 u_23) u_20 (1 : Int32) (u_20.1 6)) ∧ (¬ r_19 = 0 → T (fun r_25 u_26 => narrow .boolean (.int r_25) = .int r_25 ∧ post r_25 u_26) u_20 x1))) u_17 11) ∧ (¬ r_16 = 0 → wp_X7_goesLose (fun r_28 u_29 => narrow .boolean (.int r_28) = .int r_28 ∧ post r_28 u_29) u_17 x1))) u_14 6) ∧ (¬ r_13 = 0 → wp_X7_goesSettle (fun r_31 u_32 => narrow .boolean (.int r_31) = .int r_31 ∧ post r_31 u_32) u_14 x1))) u_11 10) ∧ (¬ r_10 = 0 → wp_X7_goesWait (fun r_34 u_35 => narrow .boolean (.int r_34) = .int r_34 ∧ post r_34 u_35) u_11 x1))) u_8 9) ∧ (¬ r_7 = 0 → wp_X7_goesHome (fun r_37 u_38 => narrow .boolean (.int r_37) = .int r_37 ∧ post r_37 u_38) u_8 x1))) u_5 8) ∧ (¬ r_4 = 0 → wp_X7_goesScroll (fun r_40 u_41 => narrow .boolean (.int r_40) = .int r_40 ∧ post r_40 u_41) u_5 x1))) u_2 7) ∧ (¬ r_1 = 0 → wp_X7_goesRow (fun r_43 u_44 => narrow .boolean (.int r_43) = .int r_43 ∧ post r_43 u_44) u_2 x1))) s0 5
def GL (O : ((Int32 → Md → Prop) → Md → Int32 → Prop)) (post : Int32 → Md → Prop) (e27 : Md → Int32 → Prop) (e29 : Md → Int32 → Prop) : Nat → Md → Int32 → Prop
  | 0, _, _ => False
  | n10 + 1, t0, z1 => wp_X7_takesByte (fun r_4 u_5 => ((r_4 = 0 → e29 u_5 z1) ∧ (¬ r_4 = 0 → O (fun r_7 u_8 => ((¬ r_7 = 0 → GL O post e27 e29 n10 u_8 z1) ∧ (r_7 = 0 → e27 u_8 z1))) u_5 z1))) t0 (59 : Int32)
def GA (O : ((Int32 → Md → Prop) → Md → Int32 → Prop)) (post : Int32 → Md → Prop) (s0 : Md) (x1 : Int32) : Prop := O (fun r_1 u_2 => ((¬ r_1 = 0 → (∃ n10, GL O post (fun t0 z1 => post 0 t0) (fun t0 z1 => post 1 t0) n10 u_2 x1)) ∧ (r_1 = 0 → post 0 u_2))) s0 x1
def GTL (A : ((Int32 → Md → Prop) → Md → Int32 → Prop)) (post : Int32 → Md → Prop) (e141 : Md → Int32 → Int32 → Int32 → Int32 → Int32 → Prop) : Nat → Md → Int32 → Int32 → Int32 → Int32 → Int32 → Prop
  | 0, _, _, _, _, _, _ => False
  | n90 + 1, t0, z1, z2, z3, z4, z5 => ((z5 = 0 → ((z3 = 0 → A (fun r_48 u_49 => ((¬ r_48 = 0 → GTL A post e141 n90 u_49 z1 z2 z3 z4 (z5 + 1)) ∧ (r_48 = 0 → post 0 u_49))) ((va_up t0.1 6 z4), t0.2.1, t0.2.2.1, t0.2.2.2) (0 : Int32)) ∧ (¬ z3 = 0 → ((z2 ≤ z5 → A (fun r_52 u_53 => ((¬ r_52 = 0 → GTL A post e141 n90 u_53 z1 z2 z3 z4 (z5 + 1)) ∧ (r_52 = 0 → post 0 u_53))) ((va_up t0.1 6 z4), t0.2.1, t0.2.2.1, t0.2.2.2) (0 : Int32)) ∧ (¬ z2 ≤ z5 → A (fun r_55 u_56 => ((¬ r_55 = 0 → GTL A post e141 n90 u_56 z1 z2 z3 z4 (z5 + 1)) ∧ (r_55 = 0 → post 0 u_56))) ((va_up t0.1 6 z4), t0.2.1, t0.2.2.1, t0.2.2.2) (1 : Int32)))))) ∧ (¬ z5 = 0 → ((z2 ≤ z5 → e141 t0 z1 z2 z3 z4 z5) ∧ (¬ z2 ≤ z5 → ((z3 = 0 → e141 t0 z1 z2 z3 z4 z5) ∧ (¬ z3 = 0 → ((z3 = 0 → A (fun r_61 u_62 => ((¬ r_61 = 0 → GTL A post e141 n90 u_62 z1 z2 z3 z4 (z5 + 1)) ∧ (r_61 = 0 → post 0 u_62))) ((va_up t0.1 6 z4), t0.2.1, t0.2.2.1, t0.2.2.2) (0 : Int32)) ∧ (¬ z3 = 0 → ((z2 ≤ z5 → A (fun r_65 u_66 => ((¬ r_65 = 0 → GTL A post e141 n90 u_66 z1 z2 z3 z4 (z5 + 1)) ∧ (r_65 = 0 → post 0 u_66))) ((va_up t0.1 6 z4), t0.2.1, t0.2.2.1, t0.2.2.2) (0 : Int32)) ∧ (¬ z2 ≤ z5 → A (fun r_68 u_69 => ((¬ r_68 = 0 → GTL A post e141 n90 u_69 z1 z2 z3 z4 (z5 + 1)) ∧ (r_68 = 0 → post 0 u_69))) ((va_up t0.1 6 z4), t0.2.1, t0.2.2.1, t0.2.2.2) (1 : Int32)))))))))))
def GT (La Lb : ((Int32 → Md → Prop) → (Md → Int32 → Int32 → Int32 → Int32 → Int32 → Prop) → Nat → Md → Int32 → Int32 → Int32 → Int32 → Int32 → Prop)) (post : Int32 → Md → Prop) (s0 : Md) (x1 : Int32) : Prop := wp_X7_readsNumber (fun r_1 u_2 => ((¬ r_1 = 0 → wp_X7_nextByte (fun r_4 u_5 => ((¬ r_4 = 40 → wp_X7_mustByte (fun r_7 u_8 => ((¬ r_7 = 0 → wp_X7_isDone (fun r_10 u_11 => (∃ n90, La post (fun t0 z1 z2 z3 z4 z5 => wp_X7_mustByte (fun r_37 u_38 => ((¬ r_37 = 0 → post 1 ((va_up u_38.1 14 ((u_38.1 14) - 1)), u_38.2.1, u_38.2.2.1, u_38.2.2.2)) ∧ (r_37 = 0 → post 0 u_38))) t0 (41 : Int32)) n90 ((va_up u_11.1 14 ((u_11.1 14) + 1)), u_11.2.1, u_11.2.2.1, u_11.2.2.2) x1 (u_2.1 8) r_10 (u_11.1 6) 0)) u_8 x1) ∧ (r_7 = 0 → post 0 u_8))) u_5 (40 : Int32)) ∧ (r_4 = 40 → ((¬ (u_5.1 14) = 3 → wp_X7_mustByte (fun r_41 u_42 => ((¬ r_41 = 0 → wp_X7_isDone (fun r_44 u_45 => (∃ n90, Lb post (fun t0 z1 z2 z3 z4 z5 => wp_X7_mustByte (fun r_71 u_72 => ((¬ r_71 = 0 → post 1 ((va_up u_72.1 14 ((u_72.1 14) - 1)), u_72.2.1, u_72.2.2.1, u_72.2.2.2)) ∧ (r_71 = 0 → post 0 u_72))) t0 (41 : Int32)) n90 ((va_up u_45.1 14 ((u_45.1 14) + 1)), u_45.2.1, u_45.2.2.1, u_45.2.2.2) x1 (u_2.1 8) r_44 (u_45.1 6) 0)) u_42 x1) ∧ (r_41 = 0 → post 0 u_42))) u_5 (40 : Int32)) ∧ ((u_5.1 14) = 3 → wp_X7_fails (fun r_74 u_75 => narrow .boolean (.int r_74) = .int r_74 ∧ post r_74 u_75) u_5 (3 : Int32) (u_5.1 6)))))) u_2) ∧ (r_1 = 0 → post 0 u_2))) ((va_up s0.1 6 ((s0.1 6) + 5)), s0.2.1, s0.2.2.1, s0.2.2.2) (0 : Int32) (20 : Int32)
theorem go_o1 : @wp_X7_goesOne_1 = GO (GT wp_X7_goesTimes_1_L90 wp_X7_goesTimes_1_L90) := rfl
theorem go_l1 {p : Int32 → Md → Prop} {e f : Md → Int32 → Prop} : ∀ (n : Nat) (s : Md) (x : Int32), wp_X7_goesAll_1_L10 p e f n s x = GL wp_X7_goesOne_1 p e f n s x := by
  intro n
  induction n with
  | zero => intro s x; rfl
  | succ n ih =>
    intro s x
    unfold wp_X7_goesAll_1_L10 GL
    simp only [ih]
theorem go_a1 : @wp_X7_goesAll_1 = GA wp_X7_goesOne_1 := by
  funext p s x
  unfold wp_X7_goesAll_1 GA
  simp only [go_l1]
theorem go_o2 : @wp_X7_goesOne_2 = GO (GT wp_X7_goesTimes_2_L90 wp_X7_goesTimes_2_L90b) := rfl
theorem go_l2 {p : Int32 → Md → Prop} {e f : Md → Int32 → Prop} : ∀ (n : Nat) (s : Md) (x : Int32), wp_X7_goesAll_2_L10 p e f n s x = GL wp_X7_goesOne_2 p e f n s x := by
  intro n
  induction n with
  | zero => intro s x; rfl
  | succ n ih =>
    intro s x
    unfold wp_X7_goesAll_2_L10 GL
    simp only [ih]
theorem go_a2 : @wp_X7_goesAll_2 = GA wp_X7_goesOne_2 := by
  funext p s x
  unfold wp_X7_goesAll_2 GA
  simp only [go_l2]
theorem go_t2 {p : Int32 → Md → Prop} {e : Md → Int32 → Int32 → Int32 → Int32 → Int32 → Prop} : ∀ (n : Nat) (s : Md) (a b c d g : Int32), wp_X7_goesTimes_2_L90b p e n s a b c d g = GTL wp_X7_goesAll_1 p e n s a b c d g := by
  intro n
  induction n with
  | zero => intro s a b c d g; rfl
  | succ n ih =>
    intro s a b c d g
    unfold wp_X7_goesTimes_2_L90b GTL
    simp only [ih]
theorem go_o3 : @wp_X7_goesOne_3 = GO (GT wp_X7_goesTimes_3_L90 wp_X7_goesTimes_3_L90b) := rfl
theorem go_l3 {p : Int32 → Md → Prop} {e f : Md → Int32 → Prop} : ∀ (n : Nat) (s : Md) (x : Int32), wp_X7_goesAll_3_L10 p e f n s x = GL wp_X7_goesOne_3 p e f n s x := by
  intro n
  induction n with
  | zero => intro s x; rfl
  | succ n ih =>
    intro s x
    unfold wp_X7_goesAll_3_L10 GL
    simp only [ih]
theorem go_a3 : @wp_X7_goesAll_3 = GA wp_X7_goesOne_3 := by
  funext p s x
  unfold wp_X7_goesAll_3 GA
  simp only [go_l3]
theorem go_t3 {p : Int32 → Md → Prop} {e : Md → Int32 → Int32 → Int32 → Int32 → Int32 → Prop} : ∀ (n : Nat) (s : Md) (a b c d g : Int32), wp_X7_goesTimes_3_L90b p e n s a b c d g = GTL wp_X7_goesAll_2 p e n s a b c d g := by
  intro n
  induction n with
  | zero => intro s a b c d g; rfl
  | succ n ih =>
    intro s a b c d g
    unfold wp_X7_goesTimes_3_L90b GTL
    simp only [ih]
theorem go_o4 : @wp_X7_goesOne_4 = GO (GT wp_X7_goesTimes_4_L90 wp_X7_goesTimes_4_L90b) := rfl
theorem go_l4 {p : Int32 → Md → Prop} {e f : Md → Int32 → Prop} : ∀ (n : Nat) (s : Md) (x : Int32), wp_X7_goesAll_4_L10 p e f n s x = GL wp_X7_goesOne_4 p e f n s x := by
  intro n
  induction n with
  | zero => intro s x; rfl
  | succ n ih =>
    intro s x
    unfold wp_X7_goesAll_4_L10 GL
    simp only [ih]
theorem go_a4 : @wp_X7_goesAll_4 = GA wp_X7_goesOne_4 := by
  funext p s x
  unfold wp_X7_goesAll_4 GA
  simp only [go_l4]
theorem go_t4 {p : Int32 → Md → Prop} {e : Md → Int32 → Int32 → Int32 → Int32 → Int32 → Prop} : ∀ (n : Nat) (s : Md) (a b c d g : Int32), wp_X7_goesTimes_4_L90b p e n s a b c d g = GTL wp_X7_goesAll_3 p e n s a b c d g := by
  intro n
  induction n with
  | zero => intro s a b c d g; rfl
  | succ n ih =>
    intro s a b c d g
    unfold wp_X7_goesTimes_4_L90b GTL
    simp only [ih]
def LV : Nat → ((Int32 → Md → Prop) → Md → Int32 → Prop)
  | 1 => wp_X7_goesAll_1
  | 2 => wp_X7_goesAll_2
  | 3 => wp_X7_goesAll_3
  | 4 => wp_X7_goesAll_4
  | _ => fun _ _ _ => False
theorem LV_e {k : Nat} (h1 : 1 ≤ k) (h4 : k ≤ 4) : ∃ La Lb : ((Int32 → Md → Prop) → (Md → Int32 → Int32 → Int32 → Int32 → Int32 → Prop) → Nat → Md → Int32 → Int32 → Int32 → Int32 → Int32 → Prop), LV k = GA (GO (GT La Lb)) ∧ (2 ≤ k → Lb = GTL (LV (k - 1))) := by
  rcases (show k = 1 ∨ k = 2 ∨ k = 3 ∨ k = 4 by omega) with rfl | rfl | rfl | rfl
  · exact ⟨_, _, go_a1.trans (congrArg GA go_o1), fun h => by omega⟩
  · exact ⟨_, _, go_a2.trans (congrArg GA go_o2), fun _ => by funext p e n s a b c d g; exact go_t2 n s a b c d g⟩
  · exact ⟨_, _, go_a3.trans (congrArg GA go_o3), fun _ => by funext p e n s a b c d g; exact go_t3 n s a b c d g⟩
  · exact ⟨_, _, go_a4.trans (congrArg GA go_o4), fun _ => by funext p e n s a b c d g; exact go_t4 n s a b c d g⟩

/-! Steps of a program as they are read: what the class has read, the reference reads too, from every state with this text. -/
theorem fz1 {A : Type} {F : (A → Prop) → Prop} (h : dt F F) {K : A → Prop} (a : F K) : ∃ o, K o ∧ F (fun x => x = o) := by
  obtain ⟨o, k, w, _⟩ := h K a
  exact ⟨o, k, w _ rfl⟩
theorem fz2 {A B : Type} {F : (A → B → Prop) → Prop} (h : dt (fun P : A × B → Prop => F (fun a b => P (a, b))) (fun P : A × B → Prop => F (fun a b => P (a, b)))) {K : A → B → Prop} (a : F K) : ∃ x y, K x y ∧ F (fun a b => a = x ∧ b = y) := by
  obtain ⟨o, k, w, _⟩ := h (fun o => K o.1 o.2) a
  exact ⟨o.1, o.2, k, w (fun x => x.1 = o.1 ∧ x.2 = o.2) ⟨rfl, rfl⟩⟩
def WP (P : Int32 → Md → Prop) : Int32 → Md → Prop := fun r u => narrow .boolean (.int r) = .int r ∧ P r u
def SM (v v' : Md) : Prop := ie [6, 7, 8, 9, 10, 11, 12] v'.1 v.1 ∧ v'.2 = v.2
theorem SM_tr {u v w : Md} (a : SM u v) (b : SM v w) : SM u w := ⟨ie_tr b.1 (fun _ h => h) a.1, b.2.trans a.2⟩
theorem FR_sm {t u : Tp} {s v : Md} (h : FR t u s v) : SM s v := ⟨fun k hk => h.2.2.1 k (fun g => hk (by
  simp only [List.mem_cons, List.not_mem_nil, or_false] at g ⊢
  omega)), h.2.2.2⟩
theorem SM_up (v : Md) {k : Nat} {y : Int32} (hk : k ∈ [6, 7, 8, 9, 10, 11, 12]) : SM v ((va_up v.1 k y), v.2.1, v.2.2.1, v.2.2.2) := ⟨ie_up (ie_refl _ _) hk, rfl⟩
/-- the text, and where it is read -/
def VV (m0 : Md) (R W D : Int) (t : Tp) (v : Md) : Prop := RT t v ∧ rw_ok R W D (v.2.2.1 0) ∧ v.1 5 = m0.1 5 ∧ v.2.2.2 2 = m0.2.2.2 2
theorem VV_sm {m0 : Md} {R W D : Int} {t u : Tp} {v w : Md} (h : VV m0 R W D t v) (s : SM v w) (r : RT u w) : VV m0 R W D u w := ⟨r, by rw [s.2]; exact h.2.1, (s.1 5 (by decide)).trans h.2.2.1, by rw [s.2]; exact h.2.2.2⟩
theorem SG_vv {m0 : Md} {v : Md} {q n : Int32} (h5 : v.1 5 = m0.1 5) (h2 : v.2.2.2 2 = m0.2.2.2 2) (h : SG v q n) : SG m0 q n := by
  have e : ∀ x, tb7 v x = tb7 m0 x := fun x => by
    unfold tb7
    rw [h5, h2]
  intro k hk
  have := h k hk
  rw [e] at this
  exact this
theorem id_mono {Q Q' : Int32 → Md → Prop} {v : Md} {x : Int32} (h : wp_X7_isDone Q v x) (h0 : Q 0 v → Q' 0 v) (h1 : Q 1 ((va_up v.1 13 ((v.1 13) + 1)), v.2.1, v.2.2.1, v.2.2.2) → Q' 1 ((va_up v.1 13 ((v.1 13) + 1)), v.2.1, v.2.2.1, v.2.2.2)) : wp_X7_isDone Q' v x := by
  unfold wp_X7_isDone at h ⊢
  exact ⟨fun c => h0 (h.1 c), fun c => ⟨fun d => h1 ((h.2 c).1 d), fun d => h0 ((h.2 c).2 d)⟩⟩
/-- what is done -/
def DO (k a b q : Int32) (Q : Md → Prop) (u : Md) : Prop := (k = 6 → wp_X7_wantsSigns (fun _ w => Q w) u a b q 1) ∧ (k = 7 → wp_X7_sets Q u a 4 (Int32.toInt64 b)) ∧ (k = 8 → wp_X7_scrolls (fun _ w => Q w) u b q) ∧ (k = 9 → u.1 8 = a ∧ ∃ p n x, wp_X7_goesHome_L38 p (fun w _ _ => Q w) n u x 0) ∧ (k = 10 → u.1 8 = a ∧ ∃ p n x, wp_X7_goesWait_L34 p (fun w _ _ => Q w) n u x 0) ∧ (k = 11 → wp_X7_settles (fun _ w => Q w) u)
def KB (m0 : Md) (R W : Int) (k a b q : Int32) : Prop := (k = 6 ∨ k = 7 ∨ k = 8 ∨ k = 9 ∨ k = 10 ∨ k = 11) ∧ (k = 6 → (0 ≤ a.toInt ∧ a.toInt < R) ∧ (0 ≤ b.toInt ∧ 0 ≤ q.toInt ∧ b.toInt + q.toInt ≤ (m0.1 5).toInt ∧ SG m0 b q)) ∧ (k = 8 → 0 ≤ b.toInt ∧ 0 ≤ q.toInt ∧ b.toInt + q.toInt ≤ (m0.1 5).toInt ∧ SG m0 b q) ∧ (k = 9 → 0 ≤ a.toInt ∧ a.toInt < R) ∧ (k = 10 → 1 ≤ a.toInt ∧ a.toInt ≤ 99) ∧ (k = 7 → (0 ≤ a.toInt ∧ a.toInt < R * W) ∧ (0 ≤ b.toInt ∧ b.toInt ≤ 9))
/-- a step that reads well, behind its word -/
def BSR (m0 : Md) (R W D : Int) (G : (Int32 → Md → Prop) → Md → Int32 → Prop) (wl : Int32) (t : Tp) (k a b q : Int32) (t' : Tp) : Prop := ∀ (v : Md) (P : Int32 → Md → Prop) (x : Int32), VV m0 R W D t ((va_up v.1 6 ((v.1 6) + wl)), v.2.1, v.2.2.1, v.2.2.2) → G P v x → KB m0 R W k a b q ∧ ∃ v', VV m0 R W D t' v' ∧ SM v v' ∧ (t.1 1).toInt ≤ (t'.1 1).toInt ∧ (k = 6 → (t.1 1).toInt + 2 ≤ (t'.1 1).toInt) ∧ (k = 7 ∨ k = 9 ∨ k = 10 → (t.1 1).toInt + 1 ≤ (t'.1 1).toInt) ∧ wp_X7_isDone (fun r u => (r = 0 → P 1 u) ∧ (¬ r = 0 → DO k a b q (fun w => P 1 w) u)) v' x
def FSR (m0 : Md) (R W D : Int) (G : (Int32 → Md → Prop) → Md → Int32 → Prop) (wl : Int32) (t : Tp) (fa : Int32) : Prop := ¬ fa = 0 ∧ ∀ (v : Md) (P : Int32 → Md → Prop) (x : Int32), VV m0 R W D t ((va_up v.1 6 ((v.1 6) + wl)), v.2.1, v.2.2.1, v.2.2.2) → G P v x → ∃ v', P 0 v' ∧ v'.1 7 = fa ∧ SM v v'
theorem SM_wl {v w : Md} {y : Int32} (h : SM ((va_up v.1 6 y), v.2.1, v.2.2.1, v.2.2.2) w) : SM v w := SM_tr (SM_up v (by decide)) h
/-- row -/
theorem st_row {K : Int32 → Tp → Prop} {m0 : Md} {R W D : Int} {t : Tp} {rows wd : Int32} (hr : rows.toInt = R) (hw : wd.toInt = W) (hb : 0 ≤ R ∧ R ≤ 6 ∧ 0 ≤ W ∧ W ≤ 10) (h6 : wp_X5_takeNumber (fun r u => wp_X5_takeQuoted (fun w => K r w) u 0 wd) t 0 (rows - 1)) : ∃ r w, K r w ∧ ((w.1 5 = 0 → BSR m0 R W D wp_X7_goesRow 3 t 6 r (w.1 3) (w.1 4) w) ∧ (¬ w.1 5 = 0 → FSR m0 R W D wp_X7_goesRow 3 t (w.1 5))) := by
  have e0 : (0 : Int32).toInt = 0 := rfl
  have e1 : (1 : Int32).toInt = 1 := rfl
  have sr := nw (tq_subr e1 rows) (by omega)
  obtain ⟨r, u, h6, z1⟩ := fz2 (F := fun P => wp_X5_takeNumber P t 0 (rows - 1)) (dt_X5_takeNumber t 0 (rows - 1)) h6
  obtain ⟨w, h6, z2⟩ := fz1 (dt_X5_takeQuoted u 0 wd) h6
  have key : ∀ (v : Md) (P : Int32 → Md → Prop) (x : Int32), VV m0 R W D t ((va_up v.1 6 ((v.1 6) + 3)), v.2.1, v.2.2.1, v.2.2.2) → wp_X7_goesRow P v x → (w.1 5 = 0 ∧ KB m0 R W 6 r (w.1 3) (w.1 4) ∧ ∃ v', VV m0 R W D w v' ∧ SM v v' ∧ (t.1 1).toInt ≤ (w.1 1).toInt ∧ ((6 : Int32) = 6 → (t.1 1).toInt + 2 ≤ (w.1 1).toInt) ∧ ((6 : Int32) = 7 ∨ (6 : Int32) = 9 ∨ (6 : Int32) = 10 → (t.1 1).toInt + 1 ≤ (w.1 1).toInt) ∧ wp_X7_isDone (fun r' u => (r' = 0 → P 1 u) ∧ (¬ r' = 0 → DO 6 r (w.1 3) (w.1 4) (fun w => P 1 w) u)) v' x) ∨ (¬ w.1 5 = 0 ∧ ∃ v', P 0 v' ∧ v'.1 7 = w.1 5 ∧ SM v v') := by
    intro v P x hV h7
    unfold wp_X7_goesRow at h7
    have rn := rw_n hV.2.1
    have h7 := rows_e h7
    have ew : Int64.toInt32 (v.2.2.1 0 0) = rows := Int32.toInt_inj.mp (rn.1.trans hr.symm)
    have ew1 : Int64.toInt32 (v.2.2.1 0 1) = wd := Int32.toInt_inj.mp (rn.2.1.trans hw.symm)
    have h7 : wp_X7_readsNumber _ ((va_up v.1 6 ((v.1 6) + 3)), v.2.1, v.2.2.1, v.2.2.2) 0 (Int64.toInt32 (v.2.2.1 0 0) - 1) := h7
    rw [ew] at h7
    obtain ⟨r', u', r7, v1, ⟨c1, c2⟩, h7, f1, g1⟩ := sm_number hV.1 (by decide) (by omega) z1 h7
    subst c1 c2
    rcases g1 with ⟨rfl, g1, g2, g3, g4, _, _, _, g5⟩ | ⟨rfl, g1⟩
    · have h7 := wide_e (h7.1 (by decide))
      have fv1 : v1.2 = v.2 := f1.2.2.2
      rw [fv1, ew1] at h7
      obtain ⟨w', r8, v2, c3, h7, f2, k1⟩ := sm_quoted g1 (by decide) (by omega) (by omega) z2 h7
      subst c3
      have sm : SM v v2 := SM_wl (SM_tr (FR_sm f1) (FR_sm f2))
      rcases k1 with ⟨rfl, k1, k2, k3, k4, k5, k6, ⟨k7, k8⟩, k9⟩ | ⟨rfl, k1⟩
      · have vv : VV m0 R W D w' v2 := VV_sm hV (SM_tr (FR_sm f1) (FR_sm f2)) k1
        refine Or.inl ⟨k1.2.2.2.2, ⟨Or.inl rfl, fun _ => ⟨⟨by omega, by omega⟩, ⟨by rw [k2]; exact k6, by rw [k3]; omega, by rw [k2, k3, ← vv.2.2.1]; exact k7, by rw [k2, k3]; exact SG_vv vv.2.2.1 vv.2.2.2 k9⟩⟩, fun c => absurd c (by decide), fun c => absurd c (by decide), fun c => absurd c (by decide), fun c => absurd c (by decide)⟩, v2, vv, sm, ?_, fun _ => ?_, fun _ => ?_, id_mono (h7.1 (by decide)) (fun q => ⟨fun _ => q.1 rfl, fun c => (c rfl).elim⟩) (fun q => ⟨fun c => absurd c (by decide), fun c => ⟨fun _ => ?_, fun c => absurd c (by decide), fun c => absurd c (by decide), fun c => absurd c (by decide), fun c => absurd c (by decide), fun c => absurd c (by decide)⟩⟩)⟩
        · have a1 := congrArg Int32.toInt hV.1.2.1
          have a2 := congrArg Int32.toInt k1.2.1
          have a3 := congrArg Int32.toInt g1.2.1
          omega
        · have a1 := congrArg Int32.toInt hV.1.2.1
          have a2 := congrArg Int32.toInt k1.2.1
          omega
        · have a1 := congrArg Int32.toInt hV.1.2.1
          have a2 := congrArg Int32.toInt k1.2.1
          omega
        · rw [g2, k2, k3]
          exact q.2 c
      · exact Or.inr ⟨k1.2, v2, h7.2 rfl, k1.1.symm, sm⟩
    · obtain ⟨w', c3, c4⟩ := fq_X5_takeQuoted u' 0 wd g1.2 rfl _ z2
      have c3 : w' = w := c3
      subst c3
      have c4 : w'.1 5 = u'.1 5 := c4
      exact Or.inr ⟨by rw [c4]; exact g1.2, v1, h7.2 rfl, by rw [c4]; exact g1.1.symm, SM_wl (FR_sm f1)⟩
  refine ⟨r, w, h6, fun c => ?_, fun c => ⟨c, ?_⟩⟩
  · intro v P x hV h7
    rcases key v P x hV h7 with g | g
    · exact g.2
    · exact (g.1 c).elim
  · intro v P x hV h7
    rcases key v P x hV h7 with g | g
    · exact (c g.1).elim
    · exact g.2

/-! The other steps. -/
theorem st_end {m0 : Md} {R W D : Int} {G : (Int32 → Md → Prop) → Md → Int32 → Prop} {wl : Int32} {t w : Tp} {k a b q : Int32} (key : ∀ (v : Md) (P : Int32 → Md → Prop) (x : Int32), VV m0 R W D t ((va_up v.1 6 ((v.1 6) + wl)), v.2.1, v.2.2.1, v.2.2.2) → G P v x → (w.1 5 = 0 ∧ KB m0 R W k a b q ∧ ∃ v', VV m0 R W D w v' ∧ SM v v' ∧ (t.1 1).toInt ≤ (w.1 1).toInt ∧ (k = 6 → (t.1 1).toInt + 2 ≤ (w.1 1).toInt) ∧ (k = 7 ∨ k = 9 ∨ k = 10 → (t.1 1).toInt + 1 ≤ (w.1 1).toInt) ∧ wp_X7_isDone (fun r' u => (r' = 0 → P 1 u) ∧ (¬ r' = 0 → DO k a b q (fun w => P 1 w) u)) v' x) ∨ (¬ w.1 5 = 0 ∧ ∃ v', P 0 v' ∧ v'.1 7 = w.1 5 ∧ SM v v')) : (w.1 5 = 0 → BSR m0 R W D G wl t k a b q w) ∧ (¬ w.1 5 = 0 → FSR m0 R W D G wl t (w.1 5)) := by
  refine ⟨fun c => ?_, fun c => ⟨c, ?_⟩⟩
  · intro v P x hV h7
    rcases key v P x hV h7 with g | g
    · exact g.2
    · exact (g.1 c).elim
  · intro v P x hV h7
    rcases key v P x hV h7 with g | g
    · exact (c g.1).elim
    · exact g.2
/-- scroll -/
theorem st_scroll {K : Tp → Prop} {m0 : Md} {R W D : Int} {t : Tp} {wd : Int32} (hw : wd.toInt = W) (hb : 0 ≤ W ∧ W ≤ 10) (h6 : wp_X5_takeQuoted K t 0 wd) : ∃ w, K w ∧ ((w.1 5 = 0 → BSR m0 R W D wp_X7_goesScroll 6 t 8 0 (w.1 3) (w.1 4) w) ∧ (¬ w.1 5 = 0 → FSR m0 R W D wp_X7_goesScroll 6 t (w.1 5))) := by
  have e0 : (0 : Int32).toInt = 0 := rfl
  obtain ⟨w, h6, z2⟩ := fz1 (dt_X5_takeQuoted t 0 wd) h6
  refine ⟨w, h6, st_end ?_⟩
  intro v P x hV h7
  unfold wp_X7_goesScroll at h7
  have rn := rw_n hV.2.1
  have h7 := wide_e h7
  have ew1 : Int64.toInt32 (v.2.2.1 0 1) = wd := Int32.toInt_inj.mp (rn.2.1.trans hw.symm)
  have h7 : wp_X7_readsQuoted _ ((va_up v.1 6 ((v.1 6) + 6)), v.2.1, v.2.2.1, v.2.2.2) 0 (Int64.toInt32 (v.2.2.1 0 1)) := h7
  rw [ew1] at h7
  obtain ⟨w', r8, v2, c3, h7, f2, k1⟩ := sm_quoted hV.1 (by decide) (by omega) (by omega) z2 h7
  subst c3
  have sm : SM v v2 := SM_wl (FR_sm f2)
  rcases k1 with ⟨rfl, k1, k2, k3, k4, k5, k6, ⟨k7, k8⟩, k9⟩ | ⟨rfl, k1⟩
  · have vv : VV m0 R W D w' v2 := VV_sm hV (FR_sm f2) k1
    refine Or.inl ⟨k1.2.2.2.2, ⟨by decide, fun c => absurd c (by decide), fun _ => ⟨by rw [k2]; exact k6, by rw [k3]; omega, by rw [k2, k3, ← vv.2.2.1]; exact k7, by rw [k2, k3]; exact SG_vv vv.2.2.1 vv.2.2.2 k9⟩, fun c => absurd c (by decide), fun c => absurd c (by decide), fun c => absurd c (by decide)⟩, v2, vv, sm, ?_, fun c => absurd c (by decide), fun c => absurd c (by decide), id_mono (h7.1 (by decide)) (fun q => ⟨fun _ => q.1 rfl, fun c => (c rfl).elim⟩) (fun q => ⟨fun c => absurd c (by decide), fun c => ⟨fun c => absurd c (by decide), fun c => absurd c (by decide), fun _ => ?_, fun c => absurd c (by decide), fun c => absurd c (by decide), fun c => absurd c (by decide)⟩⟩)⟩
    · have a1 := congrArg Int32.toInt hV.1.2.1
      have a2 := congrArg Int32.toInt k1.2.1
      omega
    · rw [k2, k3]
      exact q.2 c
  · exact Or.inr ⟨k1.2, v2, h7.2 rfl, k1.1.symm, sm⟩
/-- home -/
theorem st_home {K : Int32 → Tp → Prop} {m0 : Md} {R W D : Int} {t : Tp} {rows b q : Int32} (hr : rows.toInt = R) (hb : 0 ≤ R ∧ R ≤ 6) (h6 : wp_X5_takeNumber K t 0 (rows - 1)) : ∃ r w, K r w ∧ ∀ q, ((w.1 5 = 0 → BSR m0 R W D wp_X7_goesHome 4 t 9 r 0 q w) ∧ (¬ w.1 5 = 0 → FSR m0 R W D wp_X7_goesHome 4 t (w.1 5))) := by
  have e0 : (0 : Int32).toInt = 0 := rfl
  have e1 : (1 : Int32).toInt = 1 := rfl
  have sr := nw (tq_subr e1 rows) (by omega)
  obtain ⟨r, u, h6, z1⟩ := fz2 (F := fun P => wp_X5_takeNumber P t 0 (rows - 1)) (dt_X5_takeNumber t 0 (rows - 1)) h6
  refine ⟨r, u, h6, fun q => st_end ?_⟩
  intro v P x hV h7
  unfold wp_X7_goesHome at h7
  have rn := rw_n hV.2.1
  have h7 := rows_e h7
  have ew : Int64.toInt32 (v.2.2.1 0 0) = rows := Int32.toInt_inj.mp (rn.1.trans hr.symm)
  have h7 : wp_X7_readsNumber _ ((va_up v.1 6 ((v.1 6) + 4)), v.2.1, v.2.2.1, v.2.2.2) 0 (Int64.toInt32 (v.2.2.1 0 0) - 1) := h7
  rw [ew] at h7
  obtain ⟨r', u', r7, v1, ⟨c1, c2⟩, h7, f1, g1⟩ := sm_number hV.1 (by decide) (by omega) z1 h7
  subst c1 c2
  have sm : SM v v1 := SM_wl (FR_sm f1)
  rcases g1 with ⟨rfl, g1, g2, g3, g4, _, _, _, g5⟩ | ⟨rfl, g1⟩
  · have vv : VV m0 R W D u' v1 := VV_sm hV (FR_sm f1) g1
    refine Or.inl ⟨g1.2.2.2.2, ⟨by decide, fun c => absurd c (by decide), fun c => absurd c (by decide), fun _ => ⟨by omega, by omega⟩, fun c => absurd c (by decide), fun c => absurd c (by decide)⟩, v1, vv, sm, ?_, fun c => absurd c (by decide), fun _ => ?_, id_mono (h7.1 (by decide)) (fun q => ⟨fun _ => q.2 rfl, fun c => (c rfl).elim⟩) (fun q => ⟨fun c => absurd c (by decide), fun c => ⟨fun c => absurd c (by decide), fun c => absurd c (by decide), fun c => absurd c (by decide), fun _ => ⟨g2.symm, ?_⟩, fun c => absurd c (by decide), fun c => absurd c (by decide)⟩⟩)⟩
    · have a1 := congrArg Int32.toInt hV.1.2.1
      have a2 := congrArg Int32.toInt g1.2.1
      omega
    · have a1 := congrArg Int32.toInt hV.1.2.1
      have a2 := congrArg Int32.toInt g1.2.1
      omega
    · obtain ⟨n, q⟩ := q.1 c
      exact ⟨_, n, x, q⟩
  · exact Or.inr ⟨g1.2, v1, h7.2 rfl, g1.1.symm, sm⟩
/-- wait -/
theorem st_wait {K : Int32 → Tp → Prop} {m0 : Md} {R W D : Int} {t : Tp} (h6 : wp_X5_takeNumber K t 1 99) : ∃ r w, K r w ∧ ∀ q, ((w.1 5 = 0 → BSR m0 R W D wp_X7_goesWait 4 t 10 r 0 q w) ∧ (¬ w.1 5 = 0 → FSR m0 R W D wp_X7_goesWait 4 t (w.1 5))) := by
  have e99 : (99 : Int32).toInt = 99 := rfl
  have e1 : (1 : Int32).toInt = 1 := rfl
  obtain ⟨r, u, h6, z1⟩ := fz2 (F := fun P => wp_X5_takeNumber P t 1 99) (dt_X5_takeNumber t 1 99) h6
  refine ⟨r, u, h6, fun q => st_end ?_⟩
  intro v P x hV h7
  unfold wp_X7_goesWait at h7
  obtain ⟨r', u', r7, v1, ⟨c1, c2⟩, h7, f1, g1⟩ := sm_number hV.1 (by decide) (by decide) z1 h7
  subst c1 c2
  have sm : SM v v1 := SM_wl (FR_sm f1)
  rcases g1 with ⟨rfl, g1, g2, g3, g4, _, _, _, g5⟩ | ⟨rfl, g1⟩
  · have vv : VV m0 R W D u' v1 := VV_sm hV (FR_sm f1) g1
    refine Or.inl ⟨g1.2.2.2.2, ⟨by decide, fun c => absurd c (by decide), fun c => absurd c (by decide), fun c => absurd c (by decide), fun _ => ⟨by omega, by omega⟩, fun c => absurd c (by decide)⟩, v1, vv, sm, ?_, fun c => absurd c (by decide), fun _ => ?_, id_mono (h7.1 (by decide)) (fun q => ⟨fun _ => q.2 rfl, fun c => (c rfl).elim⟩) (fun q => ⟨fun c => absurd c (by decide), fun c => ⟨fun c => absurd c (by decide), fun c => absurd c (by decide), fun c => absurd c (by decide), fun c => absurd c (by decide), fun _ => ⟨g2.symm, ?_⟩, fun c => absurd c (by decide)⟩⟩)⟩
    · have a1 := congrArg Int32.toInt hV.1.2.1
      have a2 := congrArg Int32.toInt g1.2.1
      omega
    · have a1 := congrArg Int32.toInt hV.1.2.1
      have a2 := congrArg Int32.toInt g1.2.1
      omega
    · obtain ⟨n, q⟩ := q.1 c
      exact ⟨_, n, x, q⟩
  · exact Or.inr ⟨g1.2, v1, h7.2 rfl, g1.1.symm, sm⟩
/-- settle -/
theorem st_settle {m0 : Md} {R W D : Int} {t : Tp} {b q : Int32} (h5 : t.1 5 = 0) : BSR m0 R W D wp_X7_goesSettle 6 t 11 0 b q t := by
  intro v P x hV h7
  unfold wp_X7_goesSettle at h7
  refine ⟨⟨by decide, fun c => absurd c (by decide), fun c => absurd c (by decide), fun c => absurd c (by decide), fun c => absurd c (by decide), fun c => absurd c (by decide)⟩, _, hV, SM_up v (by decide), Int.le_refl _, fun c => absurd c (by decide), fun c => absurd c (by decide), id_mono h7 (fun q => ⟨fun _ => q.1 rfl, fun c => (c rfl).elim⟩) (fun q => ⟨fun c => absurd c (by decide), fun c => ⟨fun c => absurd c (by decide), fun c => absurd c (by decide), fun c => absurd c (by decide), fun c => absurd c (by decide), fun c => absurd c (by decide), fun _ => q.2 c⟩⟩)⟩
/-- lose -/
theorem st_lose {K : Int32 → Int32 → Tp → Prop} {m0 : Md} {R W D : Int} {t : Tp} {ce : Int32} (hr : ce.toInt = R * W) (hb : 0 ≤ R * W ∧ R * W ≤ 40) (h6 : wp_X5_takeNumber (fun r u => wp_X5_takeNumber (fun r2 w => K r r2 w) u 0 9) t 0 (ce - 1)) : ∃ r r2 w, K r r2 w ∧ ∀ q, ((w.1 5 = 0 → BSR m0 R W D wp_X7_goesLose 4 t 7 r r2 q w) ∧ (¬ w.1 5 = 0 → FSR m0 R W D wp_X7_goesLose 4 t (w.1 5))) := by
  have e0 : (0 : Int32).toInt = 0 := rfl
  have e1 : (1 : Int32).toInt = 1 := rfl
  have e9 : (9 : Int32).toInt = 9 := rfl
  have sr := nw (tq_subr e1 ce) (by omega)
  obtain ⟨r, u, h6, z1⟩ := fz2 (F := fun P => wp_X5_takeNumber P t 0 (ce - 1)) (dt_X5_takeNumber t 0 (ce - 1)) h6
  obtain ⟨r2, w, h6, z2⟩ := fz2 (F := fun P => wp_X5_takeNumber P u 0 9) (dt_X5_takeNumber u 0 9) h6
  refine ⟨r, r2, w, h6, fun q => st_end ?_⟩
  intro v P x hV h7
  unfold wp_X7_goesLose wp_X7_readsLose at h7
  have rn := rw_n hV.2.1
  have h7 := cells7_e h7
  have ew : Int64.toInt32 (v.2.2.1 0 0) * Int64.toInt32 (v.2.2.1 0 1) = ce := Int32.toInt_inj.mp (rn.2.2.2.1.trans hr.symm)
  have h7 : wp_X7_readsNumber _ ((va_up v.1 6 ((v.1 6) + 4)), v.2.1, v.2.2.1, v.2.2.2) 0 (Int64.toInt32 (v.2.2.1 0 0) * Int64.toInt32 (v.2.2.1 0 1) - 1) := h7
  rw [ew] at h7
  obtain ⟨r', u', r7, v1, ⟨c1, c2⟩, h7, f1, g1⟩ := sm_number hV.1 (by decide) (by omega) z1 h7
  subst c1 c2
  rcases g1 with ⟨rfl, g1, g2, g3, g4, _, _, _, g5⟩ | ⟨rfl, g1⟩
  · have h7 := h7.1 (by decide)
    obtain ⟨r3, w', r8, v2, ⟨c3, c4⟩, h7, f2, k1⟩ := sm_number (show RT u' ((va_up v1.1 12 (v1.1 8)), v1.2.1, v1.2.2.1, v1.2.2.2) from g1) (by decide) (by decide) z2 h7
    subst c3 c4
    have sm1 : SM ((va_up v.1 6 ((v.1 6) + 4)), v.2.1, v.2.2.1, v.2.2.2) v2 := SM_tr (FR_sm f1) (SM_tr (SM_up v1 (by decide)) (FR_sm f2))
    have sm : SM v v2 := SM_wl sm1
    have e12 : v2.1 12 = r' := (f2.2.2.1 12 (by decide)).trans g2.symm
    rcases k1 with ⟨rfl, k1, k2, k3, k4, _, _, _, k5⟩ | ⟨rfl, k1⟩
    · have vv : VV m0 R W D w' v2 := VV_sm hV sm1 k1
      have pp : (t.1 1).toInt + 1 ≤ (w'.1 1).toInt := by
        have a1 := congrArg Int32.toInt hV.1.2.1
        have a2 := congrArg Int32.toInt k1.2.1
        have a3 := congrArg Int32.toInt g1.2.1
        have k5 : (v1.1 6).toInt < (v2.1 6).toInt := k5
        omega
      refine Or.inl ⟨k1.2.2.2.2, ⟨by decide, fun c => absurd c (by decide), fun c => absurd c (by decide), fun c => absurd c (by decide), fun c => absurd c (by decide), fun _ => ⟨⟨by omega, by omega⟩, by omega, by omega⟩⟩, v2, vv, sm, by omega, fun c => absurd c (by decide), fun _ => pp, id_mono (h7.2.1 (by decide)) (fun q => ⟨fun _ => q.1 rfl, fun c => (c rfl).elim⟩) (fun q => ⟨fun c => absurd c (by decide), fun c => ⟨fun c => absurd c (by decide), fun _ => ?_, fun c => absurd c (by decide), fun c => absurd c (by decide), fun c => absurd c (by decide), fun c => absurd c (by decide)⟩⟩)⟩
      have q := q.2 c
      have q : wp_X7_sets (fun u_8 => P 1 u_8) ((va_up v2.1 13 ((v2.1 13) + 1)), v2.2.1, v2.2.2.1, v2.2.2.2) (v2.1 12) 4 (Int32.toInt64 (v2.1 8)) := q
      rw [e12, ← k2] at q
      exact q
    · exact Or.inr ⟨k1.2, v2, h7.2.2 rfl, k1.1.symm, sm⟩
  · obtain ⟨o, ⟨c3, c5⟩, c4⟩ := fq_X5_takeNumber u' 0 9 g1.2 rfl (fun o => o.1 = r2 ∧ o.2 = w) z2
    have c4 : o.2.1 5 = u'.1 5 := c4
    rw [c5] at c4
    exact Or.inr ⟨by rw [c4]; exact g1.2, v1, h7.2 rfl |>.2 rfl, by rw [c4]; exact g1.1.symm, SM_wl (FR_sm f1)⟩

/-! A word, and times. -/
theorem VV_wd {m0 : Md} {R W D : Int} {t u : Tp} {v v1 : Md} {r : Int32} {i : Nat} {x : Int32} (hi : i < 12) (h : VV m0 R W D t v) (s : SM v v1) (hc : CW r u v1) (hw : wd_y v1 i) (hx : x = nI (st_len.getD i 0)) : VV m0 R W D ((va_up u.1 4 0), u.2) ((va_up v1.1 6 ((v1.1 6) + x)), v1.2.1, v1.2.2.1, v1.2.2.2) := VV_sm h (SM_tr s (SM_up v1 (by decide))) (RT_word hi hc hw hx)
theorem go_word {m0 : Md} {R W D : Int} {t u : Tp} {v : Md} {r : Int32} {T : (Int32 → Md → Prop) → Md → Int32 → Prop} {P : Int32 → Md → Prop} {x : Int32} (z : wp_X5_takeWord (fun a b => a = r ∧ b = u) t) (hV : VV m0 R W D t v) (h7 : GO T P v x) : ∃ v1, SM v v1 ∧ CW r u v1 ∧ (v.1 6).toInt ≤ (v1.1 6).toInt ∧ ((r = 6 ∧ wd_y v1 5 ∧ wp_X7_goesRow (WP P) v1 x) ∨ (r = 7 ∧ wd_y v1 6 ∧ wp_X7_goesLose (WP P) v1 x) ∨ (r = 8 ∧ wd_y v1 7 ∧ wp_X7_goesScroll (WP P) v1 x) ∨ (r = 9 ∧ wd_y v1 8 ∧ wp_X7_goesHome (WP P) v1 x) ∨ (r = 10 ∧ wd_y v1 9 ∧ wp_X7_goesWait (WP P) v1 x) ∨ (r = 11 ∧ wd_y v1 10 ∧ wp_X7_goesSettle (WP P) v1 x) ∨ (r = 12 ∧ wd_y v1 11 ∧ T (WP P) v1 x) ∨ ((¬ r = 6 ∧ ¬ r = 7 ∧ ¬ r = 8 ∧ ¬ r = 9 ∧ ¬ r = 10 ∧ ¬ r = 11 ∧ ¬ r = 12) ∧ wp_X7_fails (WP P) v1 1 (v1.1 6))) := by
  have e6 : (6 : Int32).toInt = 6 := rfl
  have e7 : (7 : Int32).toInt = 7 := rfl
  have e8 : (8 : Int32).toInt = 8 := rfl
  have e9 : (9 : Int32).toInt = 9 := rfl
  have e10 : (10 : Int32).toInt = 10 := rfl
  have e11 : (11 : Int32).toInt = 11 := rfl
  have e12 : (12 : Int32).toInt = 12 := rfl
  unfold GO at h7
  unfold wp_X5_takeWord at z
  unfold wp_X7_isWord at h7
  obtain ⟨u0, v1, a1, a2, a3, a4, a5, a6, _⟩ := sm_peek hV.1 z h7
  obtain ⟨n6, a1⟩ := a1
  obtain ⟨r', w, ⟨c1, c2⟩, fr, cw⟩ := sm_word_core a3 a1
  subst c1 c2
  obtain ⟨c1, c2, c3, c4, c5, c6, c7, c8⟩ := id cw
  have nt : ∀ {i : Nat} {k : Int32}, i < 12 → k.toInt = (i : Int) + 1 → ¬ wd_y v1 i → ¬ r' = k := fun {i k} hi hk g g2 => g ((c7 i hi).mp (by rw [g2]; exact hk))
  have yt : ∀ {i : Nat} {k : Int32}, i < 12 → k.toInt = (i : Int) + 1 → wd_y v1 i → r' = k := fun {i k} hi hk g => Int32.toInt_inj.mp (((c7 i hi).mpr g).trans hk.symm)
  refine ⟨v1, FR_sm a4, cw, a6, ?_⟩
  rcases e7_isW_rest a3.2.2.2.1 a2 with ⟨h7, d⟩ | ⟨h7, d⟩
  · exact Or.inl ⟨yt (by decide) e6 d, d, h7.2 (by decide)⟩
  have n6 := nt (by decide) e6 d
  have h7 := h7.1 rfl
  rcases e7_isWord c4 a5 h7 with ⟨h7, d⟩ | ⟨h7, d⟩
  · exact Or.inr (Or.inr (Or.inl ⟨yt (by decide) e8 d, d, h7.2 (by decide)⟩))
  have n8 := nt (by decide) e8 d
  have h7 := h7.1 rfl
  rcases e7_isWord c4 a5 h7 with ⟨h7, d⟩ | ⟨h7, d⟩
  · exact Or.inr (Or.inr (Or.inr (Or.inl ⟨yt (by decide) e9 d, d, h7.2 (by decide)⟩)))
  have n9 := nt (by decide) e9 d
  have h7 := h7.1 rfl
  rcases e7_isWord c4 a5 h7 with ⟨h7, d⟩ | ⟨h7, d⟩
  · exact Or.inr (Or.inr (Or.inr (Or.inr (Or.inl ⟨yt (by decide) e10 d, d, h7.2 (by decide)⟩))))
  have n10 := nt (by decide) e10 d
  have h7 := h7.1 rfl
  rcases e7_isWord c4 a5 h7 with ⟨h7, d⟩ | ⟨h7, d⟩
  · exact Or.inr (Or.inr (Or.inr (Or.inr (Or.inr (Or.inl ⟨yt (by decide) e11 d, d, h7.2 (by decide)⟩)))))
  have n11 := nt (by decide) e11 d
  have h7 := h7.1 rfl
  rcases e7_isWord c4 a5 h7 with ⟨h7, d⟩ | ⟨h7, d⟩
  · exact Or.inr (Or.inl ⟨yt (by decide) e7 d, d, h7.2 (by decide)⟩)
  have n7 := nt (by decide) e7 d
  have h7 := h7.1 rfl
  rcases e7_isWord c4 a5 h7 with ⟨h7, d⟩ | ⟨h7, d⟩
  · exact Or.inr (Or.inr (Or.inr (Or.inr (Or.inr (Or.inr (Or.inl ⟨yt (by decide) e12 d, d, h7.2 (by decide)⟩))))))
  have n12 := nt (by decide) e12 d
  exact Or.inr (Or.inr (Or.inr (Or.inr (Or.inr (Or.inr (Or.inr ⟨⟨n6, n7, n8, n9, n10, n11, n12⟩, h7.1 rfl⟩))))))
theorem fqp {K : Int32 → Tp → Prop} {t : Tp} (h0 : ¬ t.1 5 = 0) (h : wp_X5_peek K t) : ∃ r u, K r u ∧ u.1 5 = t.1 5 := by
  obtain ⟨o, a, b⟩ := fq_X5_peek t h0 rfl (fun o => K o.1 o.2) h
  exact ⟨_, _, a, b⟩
def ET (P : Int32 → Md → Prop) : Md → Int32 → Int32 → Int32 → Int32 → Int32 → Prop := fun t0 z1 z2 z3 z4 z5 => wp_X7_mustByte (fun r u => ((¬ r = 0 → P 1 ((va_up u.1 14 ((u.1 14) - 1)), u.2.1, u.2.2.1, u.2.2.2)) ∧ (r = 0 → P 0 u))) t0 (41 : Int32)
def OPN (s : Pg) : Pg := ((va_up s.1 0 ((s.1 0) + 1)), (va_up s.2 5 (upd (s.2 5) (Int32.toNatClampNeg (s.1 0)) (s.1 1))))
def LTY : Type := (Int32 → Md → Prop) → (Md → Int32 → Int32 → Int32 → Int32 → Int32 → Prop) → Nat → Md → Int32 → Int32 → Int32 → Int32 → Int32 → Prop
/-- times, behind its word -/
theorem st_times {K : Int32 → Pg → Tp → Prop} {m0 : Md} {R W D : Int} {t : Tp} {s0 : Pg} (h6 : wp_X5_takeNumber (fun r u => wp_X4_openTimes (fun a b => K r a b) s0 u) t 0 20) : ∃ n pg w, K n pg w ∧ ∀ (v : Md) (La Lb : LTY) (P : Int32 → Md → Prop) (x : Int32), VV m0 R W D t ((va_up v.1 6 ((v.1 6) + 5)), v.2.1, v.2.2.1, v.2.2.2) → v.1 14 = s0.1 0 → 0 ≤ (s0.1 0).toInt ∧ (s0.1 0).toInt ≤ 3 → GT La Lb P v x → (w.1 5 = 0 ∧ (s0.1 0).toInt < 3 ∧ pg = OPN s0 ∧ (0 ≤ n.toInt ∧ n.toInt ≤ 20) ∧ (t.1 1).toInt + 2 ≤ (w.1 1).toInt ∧ ∃ v', VV m0 R W D w v' ∧ SM v v' ∧ wp_X7_isDone (fun r u => ∃ n90, Lb P (ET P) n90 ((va_up u.1 14 ((u.1 14) + 1)), u.2.1, u.2.2.1, u.2.2.2) x n r (u.1 6) 0) v' x) ∨ (¬ w.1 5 = 0 ∧ ∃ v', P 0 v' ∧ v'.1 7 = w.1 5 ∧ SM v v') := by
  have e0 : (0 : Int32).toInt = 0 := rfl
  have e3 : (3 : Int32).toInt = 3 := rfl
  have e20 : (20 : Int32).toInt = 20 := rfl
  obtain ⟨n, u, h6, z1⟩ := fz2 (F := fun P => wp_X5_takeNumber P t 0 20) (dt_X5_takeNumber t 0 20) h6
  obtain ⟨pg, w, h6, z2⟩ := fz2 (F := fun P => wp_X4_openTimes P s0 u) (dt_X4_openTimes s0 u) h6
  refine ⟨n, pg, w, h6, ?_⟩
  intro v La Lb P x hV hd hd3 h7
  unfold GT at h7
  obtain ⟨n', u', r7, v1, ⟨c1, c2⟩, h7, f1, g1⟩ := sm_number hV.1 (by decide) (by decide) z1 h7
  subst c1 c2
  have d14 : v1.1 14 = s0.1 0 := ((FR_sm f1).1 14 (by decide)).trans hd
  rcases g1 with ⟨rfl, g1, g2, g3, g4, _, _, _, g5⟩ | ⟨rfl, g1⟩
  · have h7 := h7.1 (by decide)
    unfold wp_X4_openTimes at z2
    obtain ⟨u2, v2, z2, h7, a3, a4, a5, a6, _⟩ := sm_peek g1 z2 h7
    have d14 : v2.1 14 = s0.1 0 := ((FR_sm a4).1 14 (by decide)).trans d14
    have b5 := a3.1.2.2
    have b6 := a3.2.2
    have sm2 : SM v v2 := SM_wl (SM_tr (FR_sm f1) (FR_sm a4))
    have a1 := congrArg Int32.toInt hV.1.2.1
    have a2 := congrArg Int32.toInt g1.2.1
    have ex : n' = v1.1 8 := g2
    have ev : tb5 u2 (u2.1 1) = tb7 v2 (v2.1 6) := by
      rw [a3.2.1]
      exact tb_eq a3.1 _
    by_cases c : tb7 v2 (v2.1 6) = 40
    · have z2 := z2.2 c
      have h7 := h7.2 c
      by_cases c3 : s0.1 0 < 3
      · have lt := q_lt c3
        have z2 := z2.1 c3
        have h7 := h7.1 (fun g => by
          have := q_eq (d14.symm.trans g)
          omega)
        obtain ⟨u3, r8, v3, z2, h7, f3, k1⟩ := sm_takeByte (by decide) a3 z2 h7
        have sm : SM v v3 := SM_tr sm2 (FR_sm f3)
        rcases k1 with ⟨rfl, k1, k2⟩ | ⟨rfl, k1⟩
        · obtain ⟨z3, z4⟩ := ((e5_isSound z2).1 k1.2.2.2.2).2 (by decide) |>.2
          subst z4
          have k3 := congrArg Int32.toInt k1.2.1
          have vv : VV m0 R W D u3 v3 := VV_sm hV (SM_tr (FR_sm f1) (SM_tr (FR_sm a4) (FR_sm f3))) k1
          refine Or.inl ⟨k1.2.2.2.2, by omega, z3.symm, ⟨by omega, by omega⟩, by omega, v3, vv, sm, ?_⟩
          have h7 := h7.1 (by decide)
          rw [ex]
          exact h7
        · obtain ⟨_, z4⟩ := ((e5_isSound z2).2 k1.2).1 rfl
          subst z4
          exact Or.inr ⟨k1.2, v3, h7.2 rfl, k1.1.symm, sm⟩
      · have := q_nlt c3
        have e14 : v2.1 14 = 3 := Int32.toInt_inj.mp (by rw [d14, e3]; omega)
        obtain ⟨u3, v3, z2, h7, f3, k1⟩ := sm_fault a3.2.2.2.2 a3.2.1 (by omega) (by omega) (by decide) (by decide) (z2.2 c3) (h7.2 e14)
        obtain ⟨u4, z2, z5⟩ := fq_X5_takeByte u3 40 k1.2 rfl _ z2
        have z5 : u4.1 5 = u3.1 5 := z5
        obtain ⟨_, z4⟩ := ((e5_isSound z2).2 (by rw [z5]; exact k1.2)).1 rfl
        subst z4
        exact Or.inr ⟨by rw [z5]; exact k1.2, v3, h7.2, by rw [z5]; exact k1.1.symm, SM_tr sm2 (FR_sm f3)⟩
    · have z2 := z2.1 c
      have h7 := h7.1 c
      unfold wp_X7_mustByte wp_X7_takesByte at h7
      have h7 := (e7_next a5 h7).1 c |>.2 rfl
      unfold wp_X5_takeByte at z2
      have z2 := e5_peek (by rw [a3.2.1]; omega) (by rw [ev]; exact a5) z2
      rw [ev] at z2
      obtain ⟨u3, v3, z2, h7, f3, k1⟩ := sm_fault a3.2.2.2.2 a3.2.1 (by omega) (by omega) (by decide) (by decide) (z2.1 c) h7
      obtain ⟨_, z4⟩ := ((e5_isSound z2).2 k1.2).1 rfl
      subst z4
      exact Or.inr ⟨k1.2, v3, (h7.1 rfl).2 rfl, k1.1.symm, SM_tr sm2 (FR_sm f3)⟩
  · have h7 := h7.2 rfl
    unfold wp_X4_openTimes at z2
    obtain ⟨o, o2, z2, z5⟩ := fqp g1.2 z2
    have tk : wp_X5_takeByte (fun u_5 => wp_X5_isSound (fun r_6 => ((r_6 = 0 → s0 = pg ∧ u_5 = w) ∧ (¬ r_6 = 0 → vp_in (s0.1 0) 3 ∧ OPN s0 = pg ∧ u_5 = w))) u_5) o2 (40 : Int32) := by
      by_cases c : o = 40
      · by_cases c3 : s0.1 0 < 3
        · exact (z2.2 c).1 c3
        · exact e5_blame (by rw [z5]; exact g1.2) ((z2.2 c).2 c3)
      · exact z2.1 c
    obtain ⟨u4, z2, z6⟩ := fq_X5_takeByte o2 40 (by rw [z5]; exact g1.2) rfl _ tk
    have z6 : u4.1 5 = o2.1 5 := z6
    obtain ⟨_, z4⟩ := ((e5_isSound z2).2 (by rw [z6, z5]; exact g1.2)).1 rfl
    subst z4
    exact Or.inr ⟨by rw [z6, z5]; exact g1.2, v1, h7, by rw [z6, z5]; exact g1.1.symm, SM_wl (FR_sm f1)⟩

/-! A step of a program, word and all. -/
def BST (m0 : Md) (R W D : Int) (t : Tp) (k a b q : Int32) (t' : Tp) : Prop := ∀ (v : Md) (T : (Int32 → Md → Prop) → Md → Int32 → Prop) (P : Int32 → Md → Prop) (x : Int32), VV m0 R W D t v → GO T P v x → KB m0 R W k a b q ∧ (t.1 1).toInt + 5 ≤ (t'.1 1).toInt ∧ ∃ v', VV m0 R W D t' v' ∧ SM v v' ∧ wp_X7_isDone (fun r u => (r = 0 → WP P 1 u) ∧ (¬ r = 0 → DO k a b q (fun w => WP P 1 w) u)) v' x
def SFL (m0 : Md) (R W D : Int) (d : Int32) (t : Tp) (fa : Int32) : Prop := ∀ (v : Md) (La Lb : LTY) (P : Int32 → Md → Prop) (x : Int32), VV m0 R W D t v → v.1 14 = d → GO (GT La Lb) P v x → ∃ v', P 0 v' ∧ v'.1 7 = fa ∧ SM v v'
def TRW (m0 : Md) (R W D : Int) (s0 : Pg) (t : Tp) (n : Int32) (pg : Pg) (w : Tp) : Prop := ∀ (v : Md) (La Lb : LTY) (P : Int32 → Md → Prop) (x : Int32), VV m0 R W D t v → v.1 14 = s0.1 0 → GO (GT La Lb) P v x → (w.1 5 = 0 ∧ (s0.1 0).toInt < 3 ∧ pg = OPN s0 ∧ (0 ≤ n.toInt ∧ n.toInt ≤ 20) ∧ (t.1 1).toInt + 6 ≤ (w.1 1).toInt ∧ ∃ v', VV m0 R W D w v' ∧ SM v v' ∧ wp_X7_isDone (fun r u => ∃ n90, Lb (WP P) (ET (WP P)) n90 ((va_up u.1 14 ((u.1 14) + 1)), u.2.1, u.2.2.1, u.2.2.2) x n r (u.1 6) 0) v' x) ∨ (¬ w.1 5 = 0 ∧ ∃ v', P 0 v' ∧ v'.1 7 = w.1 5 ∧ SM v v')
def AD (s : Pg) (k a b q : Int32) : Pg := ((va_up s.1 1 ((s.1 1) + 1)), (va_up (va_up (va_up (va_up (va_up s.2 0 (upd (s.2 0) (Int32.toNatClampNeg (s.1 1)) k)) 1 (upd (s.2 1) (Int32.toNatClampNeg (s.1 1)) a)) 2 (upd (s.2 2) (Int32.toNatClampNeg (s.1 1)) b)) 3 (upd (s.2 3) (Int32.toNatClampNeg (s.1 1)) q)) 4 (upd (s.2 4) (Int32.toNatClampNeg (s.1 1)) ((s.1 1) + 1))))
theorem ad_e {P : Pg → Prop} {s : Pg} {k a b q : Int32} (hz : (s.1 1).toInt < 80) (h : wp_X4_addStep P s k a b q) : P (AD s k a b q) := by
  unfold wp_X4_addStep at h
  have e80 : (80 : Int32).toInt = 80 := rfl
  exact (h.2 (fun c => by have := q_le c; omega)).2.2.2.2.2
theorem snd_e {C : Pg → Tp → Prop} {s : Pg} {w : Tp} {k a b q : Int32} (hz : (s.1 1).toInt < 80) (h : wp_X5_isSound (fun r => ((r = 0 → C s w) ∧ (¬ r = 0 → wp_X4_addStep (fun p => C p w) s k a b q))) w) : (w.1 5 = 0 → C (AD s k a b q) w) ∧ (¬ w.1 5 = 0 → C s w) := ⟨fun c => ad_e hz (((e5_isSound h).1 c).2 (by decide)), fun c => ((e5_isSound h).2 c).1 rfl⟩
theorem bst_of {m0 : Md} {R W D : Int} {t u w : Tp} {r : Int32} {G : (Int32 → Md → Prop) → Md → Int32 → Prop} {wl a b q : Int32} {i : Nat} (hi : i < 12) (hwl : wl = nI (st_len.getD i 0)) (hln : (t.1 1).toInt ≤ (t.1 1).toInt) (hn : 5 ≤ ln i ∨ (4 ≤ ln i ∧ (r = 7 ∨ r = 9 ∨ r = 10)) ∨ (3 ≤ ln i ∧ r = 6)) (hg : ∀ (v : Md) (T : (Int32 → Md → Prop) → Md → Int32 → Prop) (P : Int32 → Md → Prop) (x : Int32), VV m0 R W D t v → GO T P v x → ∃ v1, SM v v1 ∧ CW r u v1 ∧ (v.1 6).toInt ≤ (v1.1 6).toInt ∧ wd_y v1 i ∧ G (WP P) v1 x) (hB : BSR m0 R W D G wl ((va_up u.1 4 0), u.2) r a b q w) : BST m0 R W D t r a b q w := by
  intro v T P x hV h7
  obtain ⟨v1, s1, cw, le, wd, h7⟩ := hg v T P x hV h7
  obtain ⟨kb, v', vv, s2, p1, p2, p3, h7⟩ := hB v1 (WP P) x (VV_wd hi hV s1 cw wd hwl) h7
  have c8 := cw.2.2.2.2.2.2.2 i hi wd
  have c3 := cw.2.2.1
  have c4 := cw.2.2.2.1
  have b5 := cw.1.2.2
  have l := lnn i
  have ll : ln i = ((st_len.getD i 0 : Nat) : Int) := rfl
  have k := qk (q := v1.1 6) (k := st_len.getD i 0) (by omega) (by omega) (by omega)
  have a1 := congrArg Int32.toInt hV.1.2.1
  have a2 := congrArg Int32.toInt c8.1
  have p1 : (u.1 1).toInt ≤ (w.1 1).toInt := p1
  have p2 : r = 6 → (u.1 1).toInt + 2 ≤ (w.1 1).toInt := p2
  have p3 : r = 7 ∨ r = 9 ∨ r = 10 → (u.1 1).toInt + 1 ≤ (w.1 1).toInt := p3
  refine ⟨kb, ?_, v', vv, SM_tr s1 s2, h7⟩
  rcases hn with hn | ⟨hn, g⟩ | ⟨hn, g⟩
  · omega
  · have := p3 g
    omega
  · have := p2 g
    omega
theorem sfl_of {m0 : Md} {R W D : Int} {t u : Tp} {r d fa : Int32} {G : (Int32 → Md → Prop) → Md → Int32 → Prop} {wl : Int32} {i : Nat} (hi : i < 12) (hwl : wl = nI (st_len.getD i 0)) (hg : ∀ (v : Md) (T : (Int32 → Md → Prop) → Md → Int32 → Prop) (P : Int32 → Md → Prop) (x : Int32), VV m0 R W D t v → GO T P v x → ∃ v1, SM v v1 ∧ CW r u v1 ∧ (v.1 6).toInt ≤ (v1.1 6).toInt ∧ wd_y v1 i ∧ G (WP P) v1 x) (hB : FSR m0 R W D G wl ((va_up u.1 4 0), u.2) fa) : SFL m0 R W D d t fa := by
  intro v La Lb P x hV hd h7
  obtain ⟨v1, s1, cw, le, wd, h7⟩ := hg v _ P x hV h7
  obtain ⟨v', p, f, s2⟩ := hB.2 v1 (WP P) x (VV_wd hi hV s1 cw wd hwl) h7
  exact ⟨v', p.2, f, SM_tr s1 s2⟩
theorem st_step {C : Int32 → Pg → Tp → Prop} {m0 : Md} {N R W D : Int} {pg : Pg} {t : Tp} {b : Bd} (hR : (b.1 0).toInt = R) (hW : (b.1 1).toInt = W) (hRW : (b.1 0 * b.1 1).toInt = R * W) (hb : 0 ≤ R ∧ R ≤ 6 ∧ 0 ≤ W ∧ W ≤ 10 ∧ 0 ≤ R * W ∧ R * W ≤ 40) (hz : (pg.1 1).toInt < 80) (hd : 0 ≤ (pg.1 0).toInt ∧ (pg.1 0).toInt ≤ 3) (hx : ∃ v, VV m0 R W D t v ∧ mb N R W D v) (h6 : wp_X5_takeWord (fun r u => wp_X4_readStep (fun a b => C r a b) pg u b r) t) : (∃ r a b q t', ¬ r = 12 ∧ t'.1 5 = 0 ∧ C r (AD pg r a b q) t' ∧ BST m0 R W D t r a b q t') ∨ (∃ r pg' t', ¬ t'.1 5 = 0 ∧ C r pg' t' ∧ ∀ d, SFL m0 R W D d t (t'.1 5)) ∨ (∃ n pg1 t', ((t'.1 5 = 0 → wp_X4_addStep (fun p => C 12 p t') pg1 12 n 0 (t'.1 4)) ∧ (¬ t'.1 5 = 0 → C 12 pg1 t')) ∧ TRW m0 R W D pg t n pg1 t') := by
  obtain ⟨r, u, h6, z⟩ := fz2 (F := fun P => wp_X5_takeWord P t) (dt_X5_takeWord t) h6
  have gw := fun (v : Md) (T : (Int32 → Md → Prop) → Md → Int32 → Prop) (P : Int32 → Md → Prop) (x : Int32) (hV : VV m0 R W D t v) (h7 : GO T P v x) => go_word z hV h7
  obtain ⟨vx, hcw⟩ : ∃ v1, CW r u v1 := by
    obtain ⟨v, hV, hM⟩ := hx
    have z := z
    unfold wp_X5_takeWord at z
    have r5 := hV.1.2.2
    have n5 := hM.1
    obtain ⟨u0, v1, a1, _, a3, _⟩ := sm_peek (P7 := fun _ _ => True) hV.1 z (wq_X7_nextByte hM (by omega) (fun _ _ _ _ _ _ _ _ => trivial))
    obtain ⟨n6, a1⟩ := a1
    obtain ⟨r', w, ⟨c1, c2⟩, fr, cw⟩ := sm_word_core a3 a1
    subst c1 c2
    exact ⟨v1, cw⟩
  unfold wp_X4_readStep at h6
  by_cases c6 : r = 6
  · subst c6
    obtain ⟨a, w, h6, k⟩ := st_row (m0 := m0) (D := D) hR hW ⟨hb.1, hb.2.1, hb.2.2.1, hb.2.2.2.1⟩ (h6.1 rfl)
    have hg : ∀ (v : Md) (T : (Int32 → Md → Prop) → Md → Int32 → Prop) (P : Int32 → Md → Prop) (x : Int32), VV m0 R W D t v → GO T P v x → ∃ v1, SM v v1 ∧ CW 6 u v1 ∧ (v.1 6).toInt ≤ (v1.1 6).toInt ∧ wd_y v1 5 ∧ wp_X7_goesRow (WP P) v1 x := fun v T P x hV h7 => by
      obtain ⟨v1, s1, cw, le, g⟩ := gw v T P x hV h7
      rcases g with g | g | g | g | g | g | g | g
      · exact ⟨v1, s1, cw, le, g.2⟩
      all_goals first | exact absurd g.1 (by decide) | exact absurd rfl g.1.1
    by_cases c : w.1 5 = 0
    · exact Or.inl ⟨6, a, _, _, w, by decide, c, (snd_e hz h6).1 c, bst_of (i := 5) (by decide) rfl (Int.le_refl _) (by decide) hg (k.1 c)⟩
    · exact Or.inr (Or.inl ⟨6, pg, w, c, (snd_e hz h6).2 c, fun d => sfl_of (i := 5) (by decide) rfl hg (k.2 c)⟩)
  have h6 := h6.2 c6
  by_cases c7 : r = 7
  · subst c7
    obtain ⟨a, a2, w, h6, k⟩ := st_lose (m0 := m0) (D := D) hRW ⟨hb.2.2.2.2.1, hb.2.2.2.2.2⟩ (cells6_e (h6.1 rfl))
    have hg : ∀ (v : Md) (T : (Int32 → Md → Prop) → Md → Int32 → Prop) (P : Int32 → Md → Prop) (x : Int32), VV m0 R W D t v → GO T P v x → ∃ v1, SM v v1 ∧ CW 7 u v1 ∧ (v.1 6).toInt ≤ (v1.1 6).toInt ∧ wd_y v1 6 ∧ wp_X7_goesLose (WP P) v1 x := fun v T P x hV h7 => by
      obtain ⟨v1, s1, cw, le, g⟩ := gw v T P x hV h7
      rcases g with g | g | g | g | g | g | g | g
      case inr.inl => exact ⟨v1, s1, cw, le, g.2⟩
      all_goals first | exact absurd g.1 (by decide) | exact absurd rfl g.1.2.1
    by_cases c : w.1 5 = 0
    · exact Or.inl ⟨7, a, _, _, w, by decide, c, (snd_e hz h6).1 c, bst_of (i := 6) (by decide) rfl (Int.le_refl _) (by decide) hg ((k _).1 c)⟩
    · exact Or.inr (Or.inl ⟨7, pg, w, c, (snd_e hz h6).2 c, fun d => sfl_of (i := 6) (by decide) rfl hg ((k 0).2 c)⟩)
  have h6 := h6.2 c7
  by_cases c8 : r = 8
  · subst c8
    obtain ⟨w, h6, k⟩ := st_scroll (m0 := m0) (R := R) (D := D) hW ⟨hb.2.2.1, hb.2.2.2.1⟩ (h6.1 rfl)
    have hg : ∀ (v : Md) (T : (Int32 → Md → Prop) → Md → Int32 → Prop) (P : Int32 → Md → Prop) (x : Int32), VV m0 R W D t v → GO T P v x → ∃ v1, SM v v1 ∧ CW 8 u v1 ∧ (v.1 6).toInt ≤ (v1.1 6).toInt ∧ wd_y v1 7 ∧ wp_X7_goesScroll (WP P) v1 x := fun v T P x hV h7 => by
      obtain ⟨v1, s1, cw, le, g⟩ := gw v T P x hV h7
      rcases g with g | g | g | g | g | g | g | g
      case inr.inr.inl => exact ⟨v1, s1, cw, le, g.2⟩
      all_goals first | exact absurd g.1 (by decide) | exact absurd rfl g.1.2.2.1
    by_cases c : w.1 5 = 0
    · exact Or.inl ⟨8, 0, _, _, w, by decide, c, (snd_e hz h6).1 c, bst_of (i := 7) (by decide) rfl (Int.le_refl _) (by decide) hg (k.1 c)⟩
    · exact Or.inr (Or.inl ⟨8, pg, w, c, (snd_e hz h6).2 c, fun d => sfl_of (i := 7) (by decide) rfl hg (k.2 c)⟩)
  have h6 := h6.2 c8
  by_cases c9 : r = 9
  · subst c9
    obtain ⟨a, w, h6, k⟩ := st_home (m0 := m0) (W := W) (D := D) (b := 0) (q := 0) hR ⟨hb.1, hb.2.1⟩ (h6.1 rfl)
    have hg : ∀ (v : Md) (T : (Int32 → Md → Prop) → Md → Int32 → Prop) (P : Int32 → Md → Prop) (x : Int32), VV m0 R W D t v → GO T P v x → ∃ v1, SM v v1 ∧ CW 9 u v1 ∧ (v.1 6).toInt ≤ (v1.1 6).toInt ∧ wd_y v1 8 ∧ wp_X7_goesHome (WP P) v1 x := fun v T P x hV h7 => by
      obtain ⟨v1, s1, cw, le, g⟩ := gw v T P x hV h7
      rcases g with g | g | g | g | g | g | g | g
      case inr.inr.inr.inl => exact ⟨v1, s1, cw, le, g.2⟩
      all_goals first | exact absurd g.1 (by decide) | exact absurd rfl g.1.2.2.2.1
    by_cases c : w.1 5 = 0
    · exact Or.inl ⟨9, a, _, _, w, by decide, c, (snd_e hz h6).1 c, bst_of (i := 8) (by decide) rfl (Int.le_refl _) (by decide) hg ((k _).1 c)⟩
    · exact Or.inr (Or.inl ⟨9, pg, w, c, (snd_e hz h6).2 c, fun d => sfl_of (i := 8) (by decide) rfl hg ((k 0).2 c)⟩)
  have h6 := h6.2 c9
  by_cases c10 : r = 10
  · subst c10
    obtain ⟨a, w, h6, k⟩ := st_wait (m0 := m0) (R := R) (W := W) (D := D) (h6.1 rfl)
    have hg : ∀ (v : Md) (T : (Int32 → Md → Prop) → Md → Int32 → Prop) (P : Int32 → Md → Prop) (x : Int32), VV m0 R W D t v → GO T P v x → ∃ v1, SM v v1 ∧ CW 10 u v1 ∧ (v.1 6).toInt ≤ (v1.1 6).toInt ∧ wd_y v1 9 ∧ wp_X7_goesWait (WP P) v1 x := fun v T P x hV h7 => by
      obtain ⟨v1, s1, cw, le, g⟩ := gw v T P x hV h7
      rcases g with g | g | g | g | g | g | g | g
      case inr.inr.inr.inr.inl => exact ⟨v1, s1, cw, le, g.2⟩
      all_goals first | exact absurd g.1 (by decide) | exact absurd rfl g.1.2.2.2.2.1
    by_cases c : w.1 5 = 0
    · exact Or.inl ⟨10, a, _, _, w, by decide, c, (snd_e hz h6).1 c, bst_of (i := 9) (by decide) rfl (Int.le_refl _) (by decide) hg ((k _).1 c)⟩
    · exact Or.inr (Or.inl ⟨10, pg, w, c, (snd_e hz h6).2 c, fun d => sfl_of (i := 9) (by decide) rfl hg ((k 0).2 c)⟩)
  have h6 := h6.2 c10
  by_cases c11 : r = 11
  · subst c11
    have hg : ∀ (v : Md) (T : (Int32 → Md → Prop) → Md → Int32 → Prop) (P : Int32 → Md → Prop) (x : Int32), VV m0 R W D t v → GO T P v x → ∃ v1, SM v v1 ∧ CW 11 u v1 ∧ (v.1 6).toInt ≤ (v1.1 6).toInt ∧ wd_y v1 10 ∧ wp_X7_goesSettle (WP P) v1 x := fun v T P x hV h7 => by
      obtain ⟨v1, s1, cw, le, g⟩ := gw v T P x hV h7
      rcases g with g | g | g | g | g | g | g | g
      case inr.inr.inr.inr.inr.inl => exact ⟨v1, s1, cw, le, g.2⟩
      all_goals first | exact absurd g.1 (by decide) | exact absurd rfl g.1.2.2.2.2.2.1
    have h5 : u.1 5 = 0 := hcw.2.2.2.2.1
    exact Or.inl ⟨11, 0, 0, 0, ((va_up u.1 4 0), u.2), by decide, h5, (snd_e hz (h6.1 rfl)).1 h5, bst_of (i := 10) (by decide) rfl (Int.le_refl _) (by decide) hg (st_settle h5)⟩
  have h6 := h6.2 c11
  by_cases c12 : r = 12
  · subst c12
    obtain ⟨n, pg1, w, h6, k⟩ := st_times (m0 := m0) (R := R) (W := W) (D := D) (h6.1 rfl)
    have q := e5_isSound h6
    refine Or.inr (Or.inr ⟨n, pg1, w, ⟨fun c => (q.1 c).2 (by decide), fun c => (q.2 c).1 rfl⟩, ?_⟩)
    intro v La Lb P x hV hdd h7
    obtain ⟨v1, s1, cw, le, g⟩ := gw v _ P x hV h7
    have g : wd_y v1 11 ∧ GT La Lb (WP P) v1 x := by
      rcases g with g | g | g | g | g | g | g | g
      case inr.inr.inr.inr.inr.inr.inl => exact g.2
      all_goals first | exact absurd g.1 (by decide) | exact absurd rfl g.1.2.2.2.2.2.2
    rcases k v1 La Lb (WP P) x (VV_wd (i := 11) (by decide) hV s1 cw g.1 rfl) ((s1.1 14 (by decide)).trans hdd) hd g.2 with ⟨k1, k2, k3, k4, k5, v', k6, k7, k8⟩ | ⟨k1, v', k2, k3, k4⟩
    · refine Or.inl ⟨k1, k2, k3, k4, ?_, v', k6, SM_tr s1 k7, k8⟩
      have c8 := cw.2.2.2.2.2.2.2 11 (by decide) g.1
      have ll : ln 11 = 5 := by decide
      have c3 := cw.2.2.1
      have c4 := cw.2.2.2.1
      have b5 := cw.1.2.2
      have k := qk (q := v1.1 6) (k := st_len.getD 11 0) (by omega) (by omega) (by decide)
      have a1 := congrArg Int32.toInt hV.1.2.1
      have a2 := congrArg Int32.toInt c8.1
      have k5 : (u.1 1).toInt + 2 ≤ (w.1 1).toInt := k5
      have l5 : ((st_len.getD 11 0 : Nat) : Int) = 5 := by decide
      omega
    · exact Or.inr ⟨k1, v', k2.2, k3, SM_tr s1 k4⟩
  have h6 := h6.2 c12
  have h6 : wp_X5_blame (fun u_64 => wp_X5_isSound (fun r_65 => ((r_65 = 0 → C r pg u_64) ∧ (¬ r_65 = 0 → wp_X4_addStep (fun u_69 => C r u_69 u_64) pg r (0 : Int32) (0 : Int32) (u_64.1 4)))) u_64) ((va_up u.1 4 0), u.2) (u.1 2) (1 : Int32) := h6
  obtain ⟨w, h6, zz⟩ := fz1 (dt_X5_blame ((va_up u.1 4 0), u.2) (u.1 2) 1) h6
  have key : ∀ (v : Md) (La Lb : LTY) (P : Int32 → Md → Prop) (x : Int32), VV m0 R W D t v → GO (GT La Lb) P v x → ¬ w.1 5 = 0 ∧ ∃ v', P 0 v' ∧ v'.1 7 = w.1 5 ∧ SM v v' := by
    intro v La Lb P x hV h7
    obtain ⟨v1, s1, cw, le, g⟩ := gw v _ P x hV h7
    have g : wp_X7_fails (WP P) v1 1 (v1.1 6) := by
      rcases g with g | g | g | g | g | g | g | g
      case inr.inr.inr.inr.inr.inr.inr => exact g.2
      all_goals first | exact absurd g.1 c6 | exact absurd g.1 c7 | exact absurd g.1 c8 | exact absurd g.1 c9 | exact absurd g.1 c10 | exact absurd g.1 c11 | exact absurd g.1 c12
    have c3 := cw.2.2.1
    have c4 := cw.2.2.2.1
    have b5 := cw.1.2.2
    obtain ⟨w', v', c1, h7, f3, k1⟩ := sm_fault (t := ((va_up u.1 4 0), u.2)) cw.2.2.2.2.1 cw.2.1 (by omega) (by omega) (by decide) (by decide) zz g
    subst c1
    exact ⟨k1.2, v', h7.2, k1.1.symm, SM_tr s1 (FR_sm f3)⟩
  have nz : ¬ w.1 5 = 0 := by
    have c3 := hcw.2.2.1
    have c4 := hcw.2.2.2.1
    have b5 := hcw.1.2.2
    obtain ⟨w', v', c1, _, f3, k1⟩ := sm_fault (P7 := fun _ _ => True) (t := ((va_up u.1 4 0), u.2)) hcw.2.2.2.2.1 hcw.2.1 (by omega) (by omega) (by decide) (by decide) zz (show wp_X7_fails (fun _ _ => True) vx 1 (vx.1 6) from trivial)
    subst c1
    exact k1.2
  exact Or.inr (Or.inl ⟨r, pg, w, nz, ((e5_isSound h6).2 nz).1 rfl, fun d v La Lb P x hV hdd h7 => (key v La Lb P x hV h7).2⟩)

/-! A program as a tree: how it lies in the text, and in the class's rows. -/
def SEP (m0 : Md) (R W D : Int) (t t' : Tp) : Prop := ∀ (v : Md), VV m0 R W D t v → ∀ P, wp_X7_takesByte P v 59 → ∃ v', P 1 v' ∧ VV m0 R W D t' v' ∧ SM v v'
def NSP (m0 : Md) (R W D : Int) (t t' : Tp) : Prop := ∀ (v : Md), VV m0 R W D t v → ∀ P, wp_X7_takesByte P v 59 → ∃ v', P 0 v' ∧ VV m0 R W D t' v' ∧ SM v v'
def CLS (m0 : Md) (R W D : Int) (t t' : Tp) : Prop := ∀ (v : Md), VV m0 R W D t v → ∀ P, wp_X7_mustByte P v 41 → ∃ v', P 1 v' ∧ VV m0 R W D t' v' ∧ SM v v'
def TST (m0 : Md) (R W D : Int) (d : Nat) (t : Tp) (n : Int32) (t' : Tp) : Prop := ∀ (v : Md) (La Lb : LTY) (P : Int32 → Md → Prop) (x : Int32), VV m0 R W D t v → (v.1 14).toInt = (d : Int) → GO (GT La Lb) P v x → ∃ v', VV m0 R W D t' v' ∧ SM v v' ∧ wp_X7_isDone (fun r u => ∃ n90, Lb (WP P) (ET (WP P)) n90 ((va_up u.1 14 ((u.1 14) + 1)), u.2.1, u.2.2.1, u.2.2.2) x n r (u.1 6) 0) v' x
/-- a step's places in the rows -/
def AF (s : Pg) (lo : Nat) (k a b q : Int32) : Prop := s.2 0 lo = k ∧ s.2 1 lo = a ∧ s.2 2 lo = b ∧ s.2 3 lo = q ∧ (s.2 4 lo).toInt = (lo : Int) + 1
def AT (s : Pg) (lo : Nat) (n : Int32) (e : Nat) : Prop := (s.2 0 lo = 12 ∧ s.2 1 lo = n) ∧ (s.2 4 lo).toInt = (e : Int) ∧ lo + 1 < e
def CLO (m0 : Md) (R W D : Int) (s : Pg) (X : Nat → Tp → Nat → Tp → Nat → Prop) : Prop := (∀ (d : Nat) (t t1 t2 : Tp) (k a b q : Int32) (lo : Nat), BST m0 R W D t k a b q t1 → KB m0 R W k a b q → NSP m0 R W D t1 t2 → AF s lo k a b q → X d t lo t2 (lo + 1)) ∧ (∀ (d : Nat) (t t1 t2 t3 : Tp) (k a b q : Int32) (lo hi : Nat), BST m0 R W D t k a b q t1 → KB m0 R W k a b q → SEP m0 R W D t1 t2 → AF s lo k a b q → X d t2 (lo + 1) t3 hi → X d t lo t3 hi) ∧ (∀ (d : Nat) (t t1 t2 t3 t4 : Tp) (n : Int32) (lo e : Nat), TST m0 R W D d t n t1 → d < 3 → (0 ≤ n.toInt ∧ n.toInt ≤ 20) → AT s lo n e → X (d + 1) t1 (lo + 1) t2 e → CLS m0 R W D t2 t3 → NSP m0 R W D t3 t4 → X d t lo t4 e) ∧ (∀ (d : Nat) (t t1 t2 t3 t4 t5 : Tp) (n : Int32) (lo e hi : Nat), TST m0 R W D d t n t1 → d < 3 → (0 ≤ n.toInt ∧ n.toInt ≤ 20) → AT s lo n e → X (d + 1) t1 (lo + 1) t2 e → CLS m0 R W D t2 t3 → SEP m0 R W D t3 t4 → X d t4 e t5 hi → X d t lo t5 hi)
/-- a list of steps, in the text from t to t', in the rows from lo to hi -/
def PRS (m0 : Md) (R W D : Int) (s : Pg) (d : Nat) (t : Tp) (lo : Nat) (t' : Tp) (hi : Nat) : Prop := ∀ X : Nat → Tp → Nat → Tp → Nat → Prop, CLO m0 R W D s X → X d t lo t' hi
theorem PRS_c (m0 : Md) (R W D : Int) (s : Pg) : CLO m0 R W D s (PRS m0 R W D s) := ⟨fun d t t1 t2 k a b q lo g1 g2 g3 g4 X c => c.1 d t t1 t2 k a b q lo g1 g2 g3 g4, fun d t t1 t2 t3 k a b q lo hi g1 g2 g3 g4 g5 X c => c.2.1 d t t1 t2 t3 k a b q lo hi g1 g2 g3 g4 (g5 X c), fun d t t1 t2 t3 t4 n lo e g1 g2 g3 g4 g5 g6 g7 X c => c.2.2.1 d t t1 t2 t3 t4 n lo e g1 g2 g3 g4 (g5 X c) g6 g7, fun d t t1 t2 t3 t4 t5 n lo e hi g1 g2 g3 g4 g5 g6 g7 g8 X c => c.2.2.2 d t t1 t2 t3 t4 t5 n lo e hi g1 g2 g3 g4 (g5 X c) g6 g7 (g8 X c)⟩
section PRC
variable {m0 : Md} {R W D : Int} {s : Pg} {d : Nat} {t t1 t2 t3 t4 t5 : Tp} {k a b q n : Int32} {lo hi e : Nat}
theorem PRS_b1 (g1 : BST m0 R W D t k a b q t1) (g2 : KB m0 R W k a b q) (g3 : NSP m0 R W D t1 t2) (g4 : AF s lo k a b q) : PRS m0 R W D s d t lo t2 (lo + 1) := (PRS_c m0 R W D s).1 d t t1 t2 k a b q lo g1 g2 g3 g4
theorem PRS_bc (g1 : BST m0 R W D t k a b q t1) (g2 : KB m0 R W k a b q) (g3 : SEP m0 R W D t1 t2) (g4 : AF s lo k a b q) (g5 : PRS m0 R W D s d t2 (lo + 1) t3 hi) : PRS m0 R W D s d t lo t3 hi := (PRS_c m0 R W D s).2.1 d t t1 t2 t3 k a b q lo hi g1 g2 g3 g4 g5
theorem PRS_t1 (g1 : TST m0 R W D d t n t1) (g2 : d < 3) (g3 : 0 ≤ n.toInt ∧ n.toInt ≤ 20) (g4 : AT s lo n e) (g5 : PRS m0 R W D s (d + 1) t1 (lo + 1) t2 e) (g6 : CLS m0 R W D t2 t3) (g7 : NSP m0 R W D t3 t4) : PRS m0 R W D s d t lo t4 e := (PRS_c m0 R W D s).2.2.1 d t t1 t2 t3 t4 n lo e g1 g2 g3 g4 g5 g6 g7
theorem PRS_tc (g1 : TST m0 R W D d t n t1) (g2 : d < 3) (g3 : 0 ≤ n.toInt ∧ n.toInt ≤ 20) (g4 : AT s lo n e) (g5 : PRS m0 R W D s (d + 1) t1 (lo + 1) t2 e) (g6 : CLS m0 R W D t2 t3) (g7 : SEP m0 R W D t3 t4) (g8 : PRS m0 R W D s d t4 e t5 hi) : PRS m0 R W D s d t lo t5 hi := (PRS_c m0 R W D s).2.2.2 d t t1 t2 t3 t4 t5 n lo e hi g1 g2 g3 g4 g5 g6 g7 g8
end PRC
theorem PRS_ind {m0 : Md} {R W D : Int} {s : Pg} {M : Nat → Tp → Nat → Tp → Nat → Prop} (h1 : ∀ (d : Nat) (t t1 t2 : Tp) (k a b q : Int32) (lo : Nat), BST m0 R W D t k a b q t1 → KB m0 R W k a b q → NSP m0 R W D t1 t2 → AF s lo k a b q → M d t lo t2 (lo + 1)) (h2 : ∀ (d : Nat) (t t1 t2 t3 : Tp) (k a b q : Int32) (lo hi : Nat), BST m0 R W D t k a b q t1 → KB m0 R W k a b q → SEP m0 R W D t1 t2 → AF s lo k a b q → PRS m0 R W D s d t2 (lo + 1) t3 hi → M d t2 (lo + 1) t3 hi → M d t lo t3 hi) (h3 : ∀ (d : Nat) (t t1 t2 t3 t4 : Tp) (n : Int32) (lo e : Nat), TST m0 R W D d t n t1 → d < 3 → (0 ≤ n.toInt ∧ n.toInt ≤ 20) → AT s lo n e → PRS m0 R W D s (d + 1) t1 (lo + 1) t2 e → M (d + 1) t1 (lo + 1) t2 e → CLS m0 R W D t2 t3 → NSP m0 R W D t3 t4 → M d t lo t4 e) (h4 : ∀ (d : Nat) (t t1 t2 t3 t4 t5 : Tp) (n : Int32) (lo e hi : Nat), TST m0 R W D d t n t1 → d < 3 → (0 ≤ n.toInt ∧ n.toInt ≤ 20) → AT s lo n e → PRS m0 R W D s (d + 1) t1 (lo + 1) t2 e → M (d + 1) t1 (lo + 1) t2 e → CLS m0 R W D t2 t3 → SEP m0 R W D t3 t4 → PRS m0 R W D s d t4 e t5 hi → M d t4 e t5 hi → M d t lo t5 hi) {d : Nat} {t t' : Tp} {lo hi : Nat} (h : PRS m0 R W D s d t lo t' hi) : M d t lo t' hi := by
  have k := h (fun d t lo t' hi => PRS m0 R W D s d t lo t' hi ∧ M d t lo t' hi) ⟨fun d t t1 t2 k a b q lo g1 g2 g3 g4 => ⟨PRS_b1 g1 g2 g3 g4, h1 d t t1 t2 k a b q lo g1 g2 g3 g4⟩, fun d t t1 t2 t3 k a b q lo hi g1 g2 g3 g4 g5 => ⟨PRS_bc g1 g2 g3 g4 g5.1, h2 d t t1 t2 t3 k a b q lo hi g1 g2 g3 g4 g5.1 g5.2⟩, fun d t t1 t2 t3 t4 n lo e g1 g2 g3 g4 g5 g6 g7 => ⟨PRS_t1 g1 g2 g3 g4 g5.1 g6 g7, h3 d t t1 t2 t3 t4 n lo e g1 g2 g3 g4 g5.1 g5.2 g6 g7⟩, fun d t t1 t2 t3 t4 t5 n lo e hi g1 g2 g3 g4 g5 g6 g7 g8 => ⟨PRS_tc g1 g2 g3 g4 g5.1 g6 g7 g8.1, h4 d t t1 t2 t3 t4 t5 n lo e hi g1 g2 g3 g4 g5.1 g5.2 g6 g7 g8.1 g8.2⟩⟩
  exact k.2
theorem PRS_lt {m0 : Md} {R W D : Int} {s : Pg} {d : Nat} {t t' : Tp} {lo hi : Nat} (h : PRS m0 R W D s d t lo t' hi) : lo < hi := PRS_ind (M := fun _ _ lo _ hi => lo < hi) (fun _ _ _ _ _ _ _ _ lo _ _ _ _ => by omega) (fun _ _ _ _ _ _ _ _ _ lo hi _ _ _ _ _ g => by omega) (fun _ _ _ _ _ _ _ lo e _ _ _ g _ _ _ _ => by have := g.2.2; omega) (fun _ _ _ _ _ _ _ _ lo e hi _ _ _ g _ _ _ _ _ g2 => by have := g.2.2; omega) h
theorem AF_k {s s' : Pg} {lo : Nat} {k a b q : Int32} (h : AF s lo k a b q) (g : ∀ j, j < 5 → s'.2 j lo = s.2 j lo) : AF s' lo k a b q := by
  unfold AF
  rw [g 0 (by decide), g 1 (by decide), g 2 (by decide), g 3 (by decide), g 4 (by decide)]
  exact h
theorem AT_k {s s' : Pg} {lo e : Nat} {n : Int32} (h : AT s lo n e) (g : ∀ j, j < 5 → s'.2 j lo = s.2 j lo) : AT s' lo n e := by
  unfold AT
  rw [g 0 (by decide), g 1 (by decide), g 4 (by decide)]
  exact h
theorem PRS_k {m0 : Md} {R W D : Int} {s s' : Pg} {d : Nat} {t t' : Tp} {lo hi : Nat} (h : PRS m0 R W D s d t lo t' hi) : (∀ j, j < 5 → ∀ i, lo ≤ i → i < hi → s'.2 j i = s.2 j i) → PRS m0 R W D s' d t lo t' hi := by
  refine PRS_ind (M := fun d t lo t' hi => (∀ j, j < 5 → ∀ i, lo ≤ i → i < hi → s'.2 j i = s.2 j i) → PRS m0 R W D s' d t lo t' hi) (fun d t t1 t2 k a b q lo g1 g2 g3 g4 g => ?_) (fun d t t1 t2 t3 k a b q lo hi g1 g2 g3 g4 g5 ih g => ?_) (fun d t t1 t2 t3 t4 n lo e g1 g2 g3 g4 g5 ih g6 g7 g => ?_) (fun d t t1 t2 t3 t4 t5 n lo e hi g1 g2 g3 g4 g5 ih g6 g7 g8 ih2 g => ?_) h
  · exact PRS_b1 g1 g2 g3 (AF_k g4 (fun j hj => g j hj lo (by omega) (by omega)))
  · have l := PRS_lt g5
    exact PRS_bc g1 g2 g3 (AF_k g4 (fun j hj => g j hj lo (by omega) (by omega))) (ih (fun j hj i h1 h2 => g j hj i (by omega) h2))
  · have l := PRS_lt g5
    exact PRS_t1 g1 g2 g3 (AT_k g4 (fun j hj => g j hj lo (by omega) (by omega))) (ih (fun j hj i h1 h2 => g j hj i (by omega) h2)) g6 g7
  · have l := PRS_lt g5
    have l2 := PRS_lt g8
    exact PRS_tc g1 g2 g3 (AT_k g4 (fun j hj => g j hj lo (by omega) (by omega))) (ih (fun j hj i h1 h2 => g j hj i (by omega) (by omega))) g6 g7 (ih2 (fun j hj i h1 h2 => g j hj i (by omega) h2))
theorem mb_k {N R W D : Int} {v w : Md} (h : mb N R W D v) (h0 : w.1 0 = v.1 0) (h5 : w.1 5 = v.1 5) (h2 : w.2 = v.2) : mb N R W D w := by
  obtain ⟨a0, a1, a2, a3, a4, a5, a6, a7⟩ := id h
  refine ⟨by rw [h5]; exact a0, by rw [h0]; exact a1, a2, a3, by rw [h2]; exact a4, ?_, ?_, by rw [h2]; exact a7⟩
  · rw [h0, h2]
    exact a5
  · rw [h2]
    exact a6
theorem mb_sm {N R W D : Int} {v w : Md} (h : mb N R W D v) (s : SM v w) : mb N R W D w := mb_k h (s.1 0 (by decide)) (s.1 5 (by decide)) s.2
/-- a peek of the class, and what every reference state with this text does there -/
theorem fz_peek {K : Int32 → Tp → Prop} {m0 : Md} {N R W D : Int} {t : Tp} {v : Md} (hV : VV m0 R W D t v) (hM : mb N R W D v) (h : wp_X5_peek K t) : ∃ r u, K r u ∧ r = tb5 u (u.1 1) ∧ ¬ r = 32 ∧ (t.1 1).toInt ≤ (u.1 1).toInt ∧ (∀ w, VV m0 R W D t w → ∀ P, wp_X7_nextByte P w → ∃ w', P r w' ∧ VV m0 R W D u w' ∧ SM w w' ∧ r = tb7 w' (w'.1 6)) := by
  obtain ⟨r, u, h6, z⟩ := fz2 (F := fun P => wp_X5_peek P t) (dt_X5_peek t) h
  have key : ∀ w, VV m0 R W D t w → ∀ P, wp_X7_nextByte P w → ∃ w', P r w' ∧ VV m0 R W D u w' ∧ SM w w' ∧ r = tb7 w' (w'.1 6) ∧ ¬ r = 32 ∧ (w.1 6).toInt ≤ (w'.1 6).toInt := by
    intro w hw P h7
    obtain ⟨u', w', ⟨c1, c2⟩, h7, a3, a4, a5, a6, _⟩ := sm_peek hw.1 z h7
    subst c2
    rw [← c1]
    exact ⟨w', h7, VV_sm hw (FR_sm a4) a3, FR_sm a4, rfl, a5, a6⟩
  have r5 := hV.1.2.2
  have n5 := hM.1
  obtain ⟨w', _, q1, q2, q3, q4, q5⟩ := key v hV (fun _ _ => True) (wq_X7_nextByte hM (by omega) (fun _ _ _ _ _ _ _ _ => trivial))
  have a1 := congrArg Int32.toInt hV.1.2.1
  have a2 := congrArg Int32.toInt q1.1.2.1
  refine ⟨r, u, h6, ?_, q4, by omega, fun w hw P h7 => ?_⟩
  · rw [q3, q1.1.2.1]
    exact (tb_eq q1.1.1 _).symm
  · obtain ⟨w2, p1, p2, p3, p4, _⟩ := key w hw P h7
    exact ⟨w2, p1, p2, p3, p4⟩
theorem VV_b {m0 : Md} {R W D : Int} {u : Tp} {w : Md} {r : Int32} (hw : VV m0 R W D u w) (hr : r = tb5 u (u.1 1)) : tb7 w (w.1 6) = r := by
  rw [hr, hw.1.2.1]
  exact (tb_eq hw.1.1 _).symm
def nxt (u : Tp) : Tp := ((va_up u.1 1 ((u.1 1) + 1)), u.2)
theorem VV_nxt {m0 : Md} {R W D : Int} {u : Tp} {w : Md} (hw : VV m0 R W D u w) (hr : ¬ tb7 w (w.1 6) = -1) : VV m0 R W D (nxt u) ((va_up w.1 6 ((w.1 6) + 1)), w.2.1, w.2.2.1, w.2.2.2) ∧ ((nxt u).1 1).toInt = (u.1 1).toInt + 1 := by
  have lt := tb7_lt hr
  have b5 := hw.1.1.2.2
  have b6 := hw.1.2.2
  have e1 : (1 : Int32).toInt = 1 := rfl
  have a1 := congrArg Int32.toInt hw.1.2.1
  have s1 := nw (tq_addr e1 (u.1 1)) (by omega)
  exact ⟨VV_sm hw (SM_up w (by decide)) (RT_step hw.1 lt), s1⟩
theorem sep_of {m0 : Md} {R W D : Int} {t u : Tp} {r : Int32} (hz : ∀ w, VV m0 R W D t w → ∀ P, wp_X7_nextByte P w → ∃ w', P r w' ∧ VV m0 R W D u w' ∧ SM w w' ∧ r = tb7 w' (w'.1 6)) : (r = 59 → SEP m0 R W D t (nxt u)) ∧ (¬ r = 59 → NSP m0 R W D t u) := by
  refine ⟨fun c v hV P h7 => ?_, fun c v hV P h7 => ?_⟩
  · unfold wp_X7_takesByte at h7
    obtain ⟨w, h7, a, b, e⟩ := hz v hV _ h7
    have nn := VV_nxt a (by rw [← e, c]; decide)
    exact ⟨_, h7.2 c, nn.1, SM_tr b (SM_up w (by decide))⟩
  · unfold wp_X7_takesByte at h7
    obtain ⟨w, h7, a, b, e⟩ := hz v hV _ h7
    exact ⟨_, h7.1 c, a, b⟩
theorem cls_of {m0 : Md} {R W D : Int} {u : Tp} {r : Int32} (hr : r = tb5 u (u.1 1)) (h41 : r = 41) : CLS m0 R W D u (nxt u) := by
  intro v hV P h7
  have eb := VV_b hV hr
  unfold wp_X7_mustByte wp_X7_takesByte at h7
  have h7 := e7_next (by rw [eb, h41]; decide) h7
  rw [eb] at h7
  have nn := VV_nxt hV (by rw [eb, h41]; decide)
  exact ⟨_, (h7.2 h41).1 (by decide), nn.1, SM_up v (by decide)⟩
theorem cls_no {m0 : Md} {R W D : Int} {u : Tp} {v : Md} {r : Int32} {P6 : Tp → Prop} {P : Int32 → Md → Prop} (hV : VV m0 R W D u v) (hr : r = tb5 u (u.1 1)) (hb : ¬ r = 32) (h41 : ¬ r = 41) (h6 : wp_X5_blame P6 u (u.1 1) 1) (h7 : wp_X7_mustByte P v 41) : ∃ u' v', P6 u' ∧ P 0 v' ∧ ¬ u'.1 5 = 0 ∧ v'.1 7 = u'.1 5 ∧ SM v v' := by
  have eb := VV_b hV hr
  unfold wp_X7_mustByte wp_X7_takesByte at h7
  have h7 := e7_next (by rw [eb]; exact hb) h7
  rw [eb] at h7
  have b5 := hV.1.1.2.2
  have b6 := hV.1.2.2
  obtain ⟨u', v', h6, h7, f, k⟩ := sm_fault hV.1.2.2.2.2 hV.1.2.1 (by omega) (by omega) (by decide) (by decide) h6 ((h7.1 h41).2 rfl)
  exact ⟨u', v', h6, h7.1 rfl, k.2, k.1.symm, FR_sm f⟩
theorem end_no {m0 : Md} {R W D : Int} {u : Tp} {v : Md} {P6 : Tp → Prop} {P : Int32 → Md → Prop} (hV : VV m0 R W D u v) (h6 : wp_X5_blame P6 u (u.1 1) 1) (h7 : wp_X7_fails P v 1 (v.1 6)) : ∃ u' v', P6 u' ∧ P 0 v' ∧ ¬ u'.1 5 = 0 ∧ v'.1 7 = u'.1 5 ∧ SM v v' := by
  have b5 := hV.1.1.2.2
  have b6 := hV.1.2.2
  obtain ⟨u', v', h6, h7, f, k⟩ := sm_fault hV.1.2.2.2.2 hV.1.2.1 (by omega) (by omega) (by decide) (by decide) h6 h7
  exact ⟨u', v', h6, h7, k.2, k.1.symm, FR_sm f⟩

/-! The class reads a program, the reference reads it beside it: both fail alike, or there is a tree. -/
def GK (b : Bd) (post : Pg → Tp → Prop) (n : Nat) (z4 : Int32) : Int32 → Pg → Tp → Prop := fun r a c => ((r = 0 → wp_X4_readFrom_L19 b post (fun t0 t1 _ _ => post t0 t1) n a c 0 (z4 + 1)) ∧ (¬ r = 0 → wp_X4_readFrom_L19 b post (fun t0 t1 _ _ => post t0 t1) n a c 1 (z4 + 1)))
def AP (post : Int32 → Pg → Tp → Prop) (n2 : Nat) (t0 : Pg) (u_3 : Tp) (r_2 z2 : Int32) : Prop := ((¬ r_2 = 41 → ((¬ r_2 = (-1) → wp_X5_blame (fun u_8 => post 0 t0 u_8) u_3 (u_3.1 1) (1 : Int32)) ∧ (r_2 = (-1) → (((t0.1 0) ≤ 0 → post 0 t0 u_3) ∧ (¬ (t0.1 0) ≤ 0 → wp_X5_blame (fun u_11 => post 0 t0 u_11) u_3 (u_3.1 1) (1 : Int32)))))) ∧ (r_2 = 41 → ((0 < (t0.1 0) → vp_in ((t0.1 0) - 1) 3 ∧ wp_X4_closeTimes (fun u_15 => wp_X4_goesOn_L2 post (fun t0 t1 _ => post 0 t0 t1) n2 u_15 ((va_up u_3.1 1 ((u_3.1 1) + 1)), u_3.2) (z2 + 1)) ((va_up t0.1 0 ((t0.1 0) - 1)), t0.2) ((t0.2 5) (Int32.toNatClampNeg ((t0.1 0) - 1)))) ∧ (¬ 0 < (t0.1 0) → ((¬ r_2 = (-1) → wp_X5_blame (fun u_18 => post 0 t0 u_18) u_3 (u_3.1 1) (1 : Int32)) ∧ (r_2 = (-1) → (((t0.1 0) ≤ 0 → post 0 t0 u_3) ∧ (¬ (t0.1 0) ≤ 0 → wp_X5_blame (fun u_21 => post 0 t0 u_21) u_3 (u_3.1 1) (1 : Int32)))))))))
def PGL (O : (Int32 → Md → Prop) → Md → Int32 → Prop) (P : Int32 → Md → Prop) (m : Nat) (v : Md) : Prop := GL O P (fun t _ => P 0 t) (fun t _ => P 1 t) m v 0
theorem rd_sep {K : Int32 → Pg → Tp → Prop} {O : (Int32 → Md → Prop) → Md → Int32 → Prop} {P : Int32 → Md → Prop} {m0 : Md} {N R W D : Int} {tA : Tp} {pg : Pg} {vA : Md} {n2 m : Nat} {z2 : Int32} (hV : VV m0 R W D tA vA) (hM : mb N R W D vA) (hz : z2.toInt ≤ 3) (h6 : wp_X4_goesOn_L2 K (fun t0 t1 _ => K 0 t0 t1) n2 pg tA z2) (h7 : PGL O P m vA) : (∃ tB vB m', K 1 pg tB ∧ O (fun r u => (¬ r = 0 → PGL O P m' u) ∧ (r = 0 → P 0 u)) vB 0 ∧ VV m0 R W D tB vB ∧ SM vA vB ∧ (tA.1 1).toInt + 1 ≤ (tB.1 1).toInt ∧ SEP m0 R W D tA tB) ∨ (∃ tB vB r n2', AP K n2' pg tB r z2 ∧ P 1 vB ∧ VV m0 R W D tB vB ∧ SM vA vB ∧ (tA.1 1).toInt ≤ (tB.1 1).toInt ∧ NSP m0 R W D tA tB ∧ r = tb5 tB (tB.1 1) ∧ ¬ r = 32) := by
  have e3 : (3 : Int32).toInt = 3 := rfl
  cases n2 with
  | zero => exact (show False from h6).elim
  | succ n2 =>
    unfold wp_X4_goesOn_L2 at h6
    have h6 := h6.2 (fun c => by have := q_lt c; omega)
    obtain ⟨r, u, h6, hr, hb, hp, hz⟩ := fz_peek hV hM h6
    cases m with
    | zero => exact (show False from h7).elim
    | succ m =>
      unfold PGL GL at h7
      by_cases c : r = 59
      · have sp := (sep_of hz).1 c
        obtain ⟨vB, h7, q1, q2⟩ := sp vA hV _ h7
        obtain ⟨w, _, qa, _⟩ : ∃ w, True ∧ VV m0 R W D u w ∧ True := by
          have r5 := hV.1.2.2
          have n5 := hM.1
          obtain ⟨w, _, a, _⟩ := hz vA hV (fun _ _ => True) (wq_X7_nextByte hM (by omega) (fun _ _ _ _ _ _ _ _ => trivial))
          exact ⟨w, trivial, a, trivial⟩
        have nn := (VV_nxt qa (by rw [VV_b qa hr, c]; decide)).2
        exact Or.inl ⟨nxt u, vB, m, h6.2 c, h7.2 (by decide), q1, q2, by omega, sp⟩
      · have sp := (sep_of hz).2 c
        obtain ⟨vB, h7, q1, q2⟩ := sp vA hV _ h7
        exact Or.inr ⟨u, vB, r, n2, h6.1 c, h7.1 rfl, q1, q2, hp, sp, hr, hb⟩
def SN (v v' : Md) : Prop := ie [6, 7, 8, 9, 10, 11, 12, 14] v'.1 v.1 ∧ v'.2 = v.2
theorem SM_sn {v w : Md} (h : SM v w) : SN v w := ⟨fun k hk => h.1 k (fun g => hk (by
  simp only [List.mem_cons, List.not_mem_nil, or_false] at g ⊢
  omega)), h.2⟩
theorem SN_tr {u v w : Md} (a : SN u v) (b : SN v w) : SN u w := ⟨ie_tr b.1 (fun _ h => h) a.1, b.2.trans a.2⟩
def LO (b : Bd) (post : Pg → Tp → Prop) (m0 : Md) (R W D : Int) (n d : Nat) (pg : Pg) (t : Tp) (P : Int32 → Md → Prop) (v : Md) : Prop := (∃ pg' t' v', post pg' t' ∧ ¬ t'.1 5 = 0 ∧ P 0 v' ∧ v'.1 7 = t'.1 5 ∧ SN v v') ∨ (∃ v' n' z4 n2 pg' t2 r z2, P 1 v' ∧ VV m0 R W D t2 v' ∧ SM v v' ∧ n' < n ∧ AP (GK b post n' z4) n2 pg' t2 r z2 ∧ (r = tb5 t2 (t2.1 1) ∧ ¬ r = 32) ∧ PRS m0 R W D pg' d t (pg.1 1).toInt.toNat t2 (pg'.1 1).toInt.toNat ∧ ((pg.1 1).toInt < (pg'.1 1).toInt ∧ (pg'.1 1).toInt = z4.toInt + 1 ∧ 6 * z4.toInt + 5 ≤ (t2.1 1).toInt ∧ 0 ≤ z4.toInt) ∧ pg'.1 0 = pg.1 0 ∧ (∀ i : Nat, i < d → pg'.2 5 i = pg.2 5 i) ∧ (∀ j, j < 5 → ∀ i : Nat, (i : Int) < (pg.1 1).toInt → pg'.2 j i = pg.2 j i) ∧ 0 ≤ z2.toInt ∧ z2.toInt + (d : Int) ≤ 3)
def IHD (b : Bd) (post : Pg → Tp → Prop) (m0 : Md) (N R W D : Int) (n : Nat) : Prop := ∀ (d : Nat) (pg : Pg) (t : Tp) (v : Md) (z4 : Int32) (Q P : Int32 → Md → Prop) (La Lb : LTY) , d ≤ 3 → (d < 3 → Lb = GTL (LV (3 - d))) → (pg.1 0).toInt = (d : Int) → VV m0 R W D t v → mb N R W D v → (v.1 14).toInt = (d : Int) → pg.1 1 = z4 → 0 ≤ z4.toInt → 6 * z4.toInt ≤ (t.1 1).toInt → wp_X4_readFrom_L19 b post (fun t0 t1 _ _ => post t0 t1) n pg t 1 z4 → GO (GT La Lb) Q v 0 → (∀ u, Q 0 u → P 0 u) → (∀ u, Q 1 u → ∃ m, PGL (GO (GT La Lb)) P m u) → LO b post m0 R W D n d pg t P v
theorem rd_next {b : Bd} {post : Pg → Tp → Prop} {m0 : Md} {N R W D : Int} {n d : Nat} {pg pgA : Pg} {t tA : Tp} {v vA : Md} {P : Int32 → Md → Prop} {La Lb : LTY} {n2 m : Nat} {z2 z4 : Int32} (ih : IHD b post m0 N R W D n) (hd : d ≤ 3) (hL : d < 3 → Lb = GTL (LV (3 - d))) (hV : VV m0 R W D tA vA) (hM : mb N R W D vA) (h14 : (vA.1 14).toInt = (d : Int)) (hs : SM v vA) (hz : z2.toInt + (d : Int) ≤ 3) (hz0 : 0 ≤ z2.toInt) (h6 : wp_X4_goesOn_L2 (GK b post n z4) (fun t0 t1 _ => GK b post n z4 0 t0 t1) n2 pgA tA z2) (h7 : PGL (GO (GT La Lb)) P m vA) (hb1 : ∀ tB, NSP m0 R W D tA tB → PRS m0 R W D pgA d t (pg.1 1).toInt.toNat tB (pgA.1 1).toInt.toNat) (hbc : ∀ pg' tB tC hi, (∀ j, j < 5 → ∀ i : Nat, (i : Int) < (pgA.1 1).toInt → pg'.2 j i = pgA.2 j i) → SEP m0 R W D tA tB → PRS m0 R W D pg' d tB (pgA.1 1).toInt.toNat tC hi → PRS m0 R W D pg' d t (pg.1 1).toInt.toNat tC hi) (hd0 : pgA.1 0 = pg.1 0) (hp0 : (pg.1 0).toInt = (d : Int)) (h1 : (pg.1 1).toInt < (pgA.1 1).toInt) (h1z : (pgA.1 1).toInt = z4.toInt + 1) (hz4 : 0 ≤ z4.toInt ∧ 6 * z4.toInt + 5 ≤ (tA.1 1).toInt) (ho : ∀ i : Nat, i < d → pgA.2 5 i = pg.2 5 i) (ha : ∀ j, j < 5 → ∀ i : Nat, (i : Int) < (pg.1 1).toInt → pgA.2 j i = pg.2 j i) : LO b post m0 R W D (n + 1) d pg t P v := by
  have e1 : (1 : Int32).toInt = 1 := rfl
  have r5 := hV.1.1.2.2
  have r6 := hV.1.2.2
  have a6 := congrArg Int32.toInt hV.1.2.1
  have s4 := nw (tq_addr e1 z4) (by omega)
  rcases rd_sep hV hM (by omega) h6 h7 with ⟨tB, vB, m', h6, h7, q1, q2, q3, q4⟩ | ⟨tB, vB, r, n2', h6, h7, q1, q2, q3, q4, q5, q6⟩
  · have k := ih d pgA tB vB (z4 + 1) _ P La Lb hd hL (by rw [hd0]; exact hp0) q1 (mb_sm hM q2) (by rw [q2.1 14 (by decide)]; exact h14) (Int32.toInt_inj.mp (by omega)) (by omega) (by omega) (h6.2 (by decide)) h7 (fun u g => g.2 rfl) (fun u g => ⟨m', g.1 (by decide)⟩)
    rcases k with ⟨pg', t', v', k1, k2, k3, k4, k5⟩ | ⟨v', n', z4', n2, pg', t2, r, z2, k1, k2, k3, k4, k5, k6, k7, ⟨k9, k10, k11, k12⟩, k13, k14, k15, k16, k17⟩
    · exact Or.inl ⟨pg', t', v', k1, k2, k3, k4, SN_tr (SM_sn (SM_tr hs q2)) k5⟩
    · exact Or.inr ⟨v', n', z4', n2, pg', t2, r, z2, k1, k2, SM_tr hs (SM_tr q2 k3), by omega, k5, k6, hbc _ _ _ _ k15 q4 k7, ⟨by omega, k10, k11, k12⟩, k13.trans hd0, fun i hi => (k14 i hi).trans (ho i hi), fun j hj i hi => (k15 j hj i (by omega)).trans (ha j hj i hi), k16, k17⟩
  · exact Or.inr ⟨vB, n, z4, n2', pgA, tB, r, z2, h7, q1, SM_tr hs q2, by omega, h6, ⟨q5, q6⟩, hb1 _ q4, ⟨h1, h1z, by omega, hz4.1⟩, hd0, ho, ha, hz0, hz⟩
theorem rd_x {b : Bd} {post : Pg → Tp → Prop} {n : Nat} {pg : Pg} {t : Tp} {z : Int32} (h : wp_X4_readFrom_L19 b post (fun t0 t1 _ _ => post t0 t1) n pg t 0 z) : post pg t := by
  cases n with
  | zero => exact (show False from h).elim
  | succ n =>
    unfold wp_X4_readFrom_L19 at h
    by_cases c : 80 ≤ z
    · exact h.1 c
    · exact (h.2 c).1 rfl
theorem AD_a {s : Pg} {k a b q : Int32} (h0 : 0 ≤ (s.1 1).toInt) : ((AD s k a b q).1 0 = s.1 0 ∧ (AD s k a b q).1 1 = s.1 1 + 1) ∧ ((AD s k a b q).2 0 (s.1 1).toInt.toNat = k ∧ (AD s k a b q).2 1 (s.1 1).toInt.toNat = a ∧ (AD s k a b q).2 2 (s.1 1).toInt.toNat = b ∧ (AD s k a b q).2 3 (s.1 1).toInt.toNat = q ∧ (AD s k a b q).2 4 (s.1 1).toInt.toNat = s.1 1 + 1) ∧ (AD s k a b q).2 5 = s.2 5 ∧ (∀ j, j < 5 → ∀ i : Nat, ¬ i = (s.1 1).toInt.toNat → (AD s k a b q).2 j i = s.2 j i) := by
  unfold AD
  rw [tn_i]
  refine ⟨⟨rfl, rfl⟩, ⟨up_e, up_e, up_e, up_e, up_e⟩, rfl, fun j hj i hi => ?_⟩
  rcases (show j = 0 ∨ j = 1 ∨ j = 2 ∨ j = 3 ∨ j = 4 by omega) with rfl | rfl | rfl | rfl | rfl <;> exact up_n hi

/-! Reading, all of it. -/
theorem LO_mono {b : Bd} {post : Pg → Tp → Prop} {m0 : Md} {R W D : Int} {n n' d : Nat} {pg : Pg} {t : Tp} {P : Int32 → Md → Prop} {v : Md} (hn : n ≤ n') (h : LO b post m0 R W D n d pg t P v) : LO b post m0 R W D n' d pg t P v := by
  rcases h with h | ⟨v', n1, z4, n2, pg', t2, r, z2, k1, k2, k3, k4, k5⟩
  · exact Or.inl h
  · exact Or.inr ⟨v', n1, z4, n2, pg', t2, r, z2, k1, k2, k3, by omega, k5⟩
theorem rd_all {b : Bd} {post : Pg → Tp → Prop} {m0 : Md} {N R W D : Int} (hR : (b.1 0).toInt = R) (hW : (b.1 1).toInt = W) (hRW : (b.1 0 * b.1 1).toInt = R * W) (hb : 0 ≤ R ∧ R ≤ 6 ∧ 0 ≤ W ∧ W ≤ 10 ∧ 0 ≤ R * W ∧ R * W ≤ 40) : ∀ n, IHD b post m0 N R W D n := by
  have e1 : (1 : Int32).toInt = 1 := rfl
  have e0 : (0 : Int32).toInt = 0 := rfl
  have e80 : (80 : Int32).toInt = 80 := rfl
  intro n
  induction n using Nat.strongRecOn with
  | _ n ih =>
  cases n with
  | zero =>
    intro d pg t v z4 Q P La Lb _ _ _ _ _ _ _ _ _ h
    exact (show False from h).elim
  | succ n =>
    intro d pg t v z4 Q P La Lb hd hL hp0 hV hM h14 hsz hz0 hz6 h6 h7 hQ0 hQ1
    have r5 := hV.1.1.2.2
    have r6 := hV.1.2.2
    have a6 := congrArg Int32.toInt hV.1.2.1
    have szi := congrArg Int32.toInt hsz
    have s4 := nw (tq_addr e1 z4) (by omega)
    unfold wp_X4_readFrom_L19 at h6
    have h6 := (h6.2 (fun c => by have := q_le c; omega)).2 (by decide)
    rcases st_step (C := fun r a c => wp_X5_isSound (fun r_9 => ((r_9 = 0 → wp_X4_readFrom_L19 b post (fun t0 t1 _ _ => post t0 t1) n a c 0 (z4 + 1)) ∧ (¬ r_9 = 0 → ((r = 12 → wp_X4_readFrom_L19 b post (fun t0 t1 _ _ => post t0 t1) n a c 1 (z4 + 1)) ∧ (¬ r = 12 → wp_X4_goesOn (GK b post n z4) a c))))) c) (m0 := m0) (D := D) hR hW hRW hb (by omega) (by omega) ⟨v, hV, hM⟩ h6 with ⟨r, a, bb, q, t', n12, s5, h6, bst⟩ | ⟨r, pg', t', nz, h6, sfl⟩ | ⟨nn, pg1, t', ⟨hs, hu⟩, trw⟩
    · obtain ⟨n2, h6⟩ := (((e5_isSound h6).1 s5).2 (by decide)).2 n12
      obtain ⟨kb, pos, v', vv, sm, h7⟩ := bst v _ Q 0 hV h7
      unfold wp_X7_isDone at h7
      obtain ⟨m, h7⟩ := hQ1 _ ((h7.1 rfl).1 rfl).2
      obtain ⟨⟨d0, d1⟩, ⟨f0, f1, f2, f3, f4⟩, f5, f6⟩ := AD_a (s := pg) (k := r) (a := a) (b := bb) (q := q) (by omega)
      have d1i := nw (tq_addr e1 (pg.1 1)) (by omega)
      have dd := congrArg Int32.toInt d1
      have ee : ((AD pg r a bb q).1 1).toInt.toNat = (pg.1 1).toInt.toNat + 1 := by omega
      have af : AF (AD pg r a bb q) (pg.1 1).toInt.toNat r a bb q := ⟨f0, f1, f2, f3, by rw [f4]; omega⟩
      refine rd_next (ih n (by omega)) hd hL vv (mb_sm hM sm) (by rw [sm.1 14 (by decide)]; exact h14) sm (z2 := 0) (by rw [e0]; omega) (by decide) h6 h7 (fun tB ns => ?_) (fun pg' tB tC hi hx sp pr => ?_) d0 hp0 (by omega) (by omega) ⟨hz0, by omega⟩ (fun i hi => by rw [f5]) (fun j hj i hi => f6 j hj i (by omega))
      · rw [ee]
        exact PRS_b1 bst kb ns af
      · rw [ee] at pr
        exact PRS_bc bst kb sp (AF_k af (fun j hj => hx j hj _ (by omega))) pr
    · obtain ⟨v', q, f, sm⟩ := sfl (v.1 14) v La Lb Q 0 hV rfl h7
      exact Or.inl ⟨pg', t', v', rd_x (((e5_isSound h6).2 nz).1 rfl), nz, hQ0 _ q, f, SM_sn sm⟩
    · rcases trw v La Lb Q 0 hV (Int32.toInt_inj.mp (h14.trans hp0.symm)) h7 with ⟨s5, d3, e1p, nb, pos, v', vv, sm, h7⟩ | ⟨nz, v', q, f, sm⟩
      · subst e1p
        have d3 : d < 3 := by omega
        have tst : TST m0 R W D d t nn t' := fun v La Lb P x hV h14 h7 => by
          rcases trw v La Lb P x hV (Int32.toInt_inj.mp (h14.trans hp0.symm)) h7 with ⟨_, _, _, _, _, g⟩ | ⟨g, _⟩
          · exact g
          · exact (g s5).elim
        have osz : (OPN pg).1 1 = pg.1 1 := rfl
        have h6 := (((e5_isSound (ad_e (by rw [osz]; omega) (hs s5))).1 s5).2 (by decide)).1 rfl
        obtain ⟨⟨d0, d1⟩, ⟨f0, f1, f2, f3, f4⟩, f5, f6⟩ := AD_a (s := OPN pg) (k := 12) (a := nn) (b := 0) (q := t'.1 4) (by rw [osz]; omega)
        rw [osz] at d1 f0 f1 f2 f3 f4 f6
        have o5 : (AD (OPN pg) 12 nn 0 (t'.1 4)).2 5 = upd (pg.2 5) d (pg.1 1) := by
          rw [f5]
          show upd (pg.2 5) (Int32.toNatClampNeg (pg.1 0)) (pg.1 1) = _
          rw [tn_i]
          congr 1
          omega
        have d0 : (AD (OPN pg) 12 nn 0 (t'.1 4)).1 0 = pg.1 0 + 1 := d0
        have fa : ∀ j, j < 5 → ∀ i : Nat, ¬ i = (pg.1 1).toInt.toNat → (AD (OPN pg) 12 nn 0 (t'.1 4)).2 j i = pg.2 j i := fun j hj i hi => by
          rw [f6 j hj i hi]
          show va_up pg.2 5 _ j i = _
          rw [va_n (by omega)]
        generalize AD (OPN pg) 12 nn 0 (t'.1 4) = pgT at *
        have d1i := nw (tq_addr e1 (pg.1 1)) (by omega)
        have d0i := nw (tq_addr e1 (pg.1 0)) (by omega)
        have dd1 := congrArg Int32.toInt d1
        have dd0 := congrArg Int32.toInt d0
        unfold wp_X7_isDone at h7
        obtain ⟨n90, h7⟩ := h7.1 rfl
        rw [hL d3] at h7
        cases n90 with
        | zero => exact (show False from h7).elim
        | succ n90 =>
          unfold GTL at h7
          have h7 := (h7.1 rfl).1 rfl
          obtain ⟨La', Lb', eL, hL'⟩ := LV_e (k := 3 - d) (by omega) (by omega)
          have h7 : LV (3 - d) _ ((va_up (va_up v'.1 14 ((v'.1 14) + 1)) 6 (v'.1 6)), v'.2.1, v'.2.2.1, v'.2.2.2) 0 := h7
          rw [eL] at h7
          unfold GA at h7
          have v14 : v'.1 14 = v.1 14 := sm.1 14 (by decide)
          have s14 := nw (tq_addr e1 (v.1 14)) (by omega)
          obtain ⟨vS, hvS⟩ : ∃ w : Md, w = ((va_up (va_up v'.1 14 ((v'.1 14) + 1)) 6 (v'.1 6)), v'.2.1, v'.2.2.1, v'.2.2.2) := ⟨_, rfl⟩
          rw [← hvS] at h7
          have vvS : VV m0 R W D t' vS := by
            rw [hvS]
            exact vv
          have mvS : mb N R W D vS := by
            rw [hvS]
            exact mb_k (mb_sm hM sm) rfl rfl rfl
          have vS14 : vS.1 14 = v.1 14 + 1 := by
            rw [hvS, ← v14]
            rfl
          have snS : SN v' vS := by
            rw [hvS]
            exact ⟨ie_up (ie_up (ie_refl _ _) (by decide)) (by decide), rfl⟩
          have k := ih n (by omega) (d + 1) pgT t' vS (z4 + 1) _ _ La' Lb' (by omega) (fun g => by rw [hL' (by omega)]; congr 1) (by omega) vvS mvS (by rw [vS14]; omega) (Int32.toInt_inj.mp (by omega)) (by omega) (by omega) h6 h7 (fun u g => g.2 rfl) (fun u g => g.1 (by decide))
          rcases k with ⟨pg', t2, v2, k1, k2, k3, k4, k5⟩ | ⟨v2, n', z4', n2, pg', t2, r, z2, k1, k2, k3, k4, k5, ⟨k6, k6b⟩, k7, ⟨k9, k10, k11, k12⟩, k13, k14, k15, k16, k17⟩
          · exact Or.inl ⟨pg', t2, v2, k1, k2, hQ0 _ (k3.2 rfl).2, k4, SN_tr (SN_tr (SM_sn sm) snS) k5⟩
          · have h7 := k1.1 (by decide)
            cases n90 with
            | zero => exact (show False from h7).elim
            | succ n90 =>
              unfold GTL at h7
              have h7 := h7.2 (by decide)
              have h7 : ET (WP Q) v2 0 nn 0 (v'.1 6) (0 + 1) := by
                by_cases c : nn ≤ 0 + 1
                · exact h7.1 c
                · exact (h7.2 c).1 rfl
              unfold ET at h7
              have p0 : pg'.1 0 = pg.1 0 + 1 := k13.trans d0
              have p0i := congrArg Int32.toInt p0
              by_cases h41 : r = 41
              · have h6 := ((k5.2 h41).1 (Int32.lt_iff_toInt_lt.mpr (by rw [e0]; omega))).2
                have ex : pg'.1 0 - 1 = pg.1 0 := by
                  have := nw (tq_subr e1 (pg'.1 0)) (by omega)
                  exact Int32.toInt_inj.mp (by omega)
                have eo : (pg'.2 5) (Int32.toNatClampNeg (pg'.1 0 - 1)) = pg.1 1 := by
                  rw [ex, tn_i]
                  have ed : (pg.1 0).toInt.toNat = d := by omega
                  rw [ed, k14 d (by omega), o5]
                  exact up_e
                rw [eo, ex] at h6
                unfold wp_X4_closeTimes wp_X4_hasStep at h6
                have h6 := (((h6.2 (fun c => by have := q_lt c; omega)).2 (fun c => by
                  have := q_le c
                  have : (pg'.1 1).toInt ≤ (pg.1 1).toInt := this
                  omega)).2 (by decide)).2
                have r25 := k2.1.1.2.2
                have r26 := k2.1.2.2
                have cls : CLS m0 R W D t2 (nxt t2) := cls_of k6 h41
                obtain ⟨v3, h7, vv3, sm3⟩ := cls v2 k2 _ h7
                have h7 := (h7.1 (by decide)).2
                obtain ⟨m, h7⟩ := hQ1 _ h7
                have v314 : v3.1 14 = v.1 14 + 1 := (sm3.1 14 (by decide)).trans ((k3.1 14 (by decide)).trans vS14)
                have back : v.1 14 + 1 - 1 = v.1 14 := by
                  have := nw (tq_subr e1 (v.1 14 + 1)) (by omega)
                  exact Int32.toInt_inj.mp (by omega)
                obtain ⟨vA, hvA⟩ : ∃ w : Md, w = ((va_up v3.1 14 ((v3.1 14) - 1)), v3.2.1, v3.2.2.1, v3.2.2.2) := ⟨_, rfl⟩
                rw [← hvA] at h7
                have vvA : VV m0 R W D (nxt t2) vA := by
                  rw [hvA]
                  exact vv3
                have smA : SM v vA := by
                  have q : SN v v3 := SN_tr (SN_tr (SM_sn sm) snS) (SM_sn (SM_tr k3 sm3))
                  refine ⟨fun i hi => ?_, by rw [hvA]; exact q.2⟩
                  rw [hvA]
                  show va_up v3.1 14 (v3.1 14 - 1) i = _
                  by_cases g : i = 14
                  · subst g
                    rw [va_up_self, v314, back]
                  · rw [va_n g]
                    refine q.1 i (fun g2 => ?_)
                    simp only [List.mem_cons, List.not_mem_nil, or_false] at g2 hi
                    omega
                have mA : mb N R W D vA := mb_sm hM smA
                have s2 := nw (tq_addr e1 z2) (by omega)
                have nxp := (VV_nxt k2 (by rw [VV_b k2 k6, h41]; decide)).2
                have eT : (pgT.1 1).toInt.toNat = (pg.1 1).toInt.toNat + 1 := by omega
                rw [eT] at k7
                obtain ⟨pgA, hpA⟩ : ∃ s : Pg, s = ((va_up pg'.1 0 (pg.1 0)), (va_up pg'.2 4 (upd (pg'.2 4) (Int32.toNatClampNeg (pg.1 1)) (pg'.1 1)))) := ⟨_, rfl⟩
                have h6 : wp_X4_goesOn_L2 (GK b post n' z4') (fun t0 t1 _ => GK b post n' z4' 0 t0 t1) n2 pgA (nxt t2) (z2 + 1) := by
                  rw [hpA]
                  exact h6
                have pA1 : pgA.1 1 = pg'.1 1 := by rw [hpA]; rfl
                have pA0 : pgA.1 0 = pg.1 0 := by rw [hpA]; rfl
                have pA5 : pgA.2 5 = pg'.2 5 := by rw [hpA]; rfl
                have pAx : ∀ j, j < 5 → ∀ i : Nat, ¬ (j = 4 ∧ i = (pg.1 1).toInt.toNat) → pgA.2 j i = pg'.2 j i := fun j hj i hn => by
                  rw [hpA]
                  show va_up pg'.2 4 (upd (pg'.2 4) (Int32.toNatClampNeg (pg.1 1)) (pg'.1 1)) j i = _
                  rw [tn_i]
                  by_cases g : j = 4
                  · subst g
                    rw [va_up_self]
                    exact up_n (fun g2 => hn ⟨rfl, g2⟩)
                  · rw [va_n g]
                have pA4 : pgA.2 4 (pg.1 1).toInt.toNat = pg'.1 1 := by
                  rw [hpA]
                  show va_up pg'.2 4 (upd (pg'.2 4) (Int32.toNatClampNeg (pg.1 1)) (pg'.1 1)) 4 _ = _
                  rw [tn_i, va_up_self]
                  exact up_e
                have pA1i := congrArg Int32.toInt pA1
                have at_ : AT pgA (pg.1 1).toInt.toNat nn (pg'.1 1).toInt.toNat := by
                  refine ⟨⟨?_, ?_⟩, by rw [pA4]; omega, by omega⟩
                  · rw [pAx 0 (by decide) _ (by omega), k15 0 (by decide) _ (by omega)]
                    exact f0
                  · rw [pAx 1 (by decide) _ (by omega), k15 1 (by decide) _ (by omega)]
                    exact f1
                refine LO_mono (show n' + 1 ≤ n + 1 by omega) (rd_next (ih n' (by omega)) hd hL vvA mA (by rw [smA.1 14 (by decide)]; exact h14) smA (z2 := z2 + 1) (by omega) (by omega) h6 h7 (fun tB ns => ?_) (fun pg'' tB tC hi hx sp pr => ?_) pA0 hp0 (by omega) (by omega) ⟨k12, by omega⟩ (fun i hi => ?_) (fun j hj i hi => ?_))
                · rw [pA1]
                  exact PRS_t1 tst d3 nb at_ (PRS_k k7 (fun j hj i h1 h2 => pAx j hj i (by omega))) cls ns
                · rw [pA1] at pr
                  exact PRS_tc tst d3 nb (AT_k at_ (fun j hj => hx j hj _ (by omega))) (PRS_k k7 (fun j hj i h1 h2 => (hx j hj i (by omega)).trans (pAx j hj i (by omega)))) cls sp pr
                · rw [pA5, k14 i (by omega), o5]
                  exact up_n (by omega)
                · exact (pAx j hj i (by omega)).trans ((k15 j hj i (by omega)).trans (fa j hj i (by omega)))
              · have bl : wp_X5_blame (fun u_8 => GK b post n' z4' 0 pg' u_8) t2 (t2.1 1) 1 := by
                  by_cases g : r = -1
                  · exact ((k5.1 h41).2 g).2 (fun c => by have := q_le c; omega)
                  · exact (k5.1 h41).1 g
                obtain ⟨u', v3, h6, h7, g1, g2, g3⟩ := cls_no k2 k6 k6b h41 bl h7
                exact Or.inl ⟨pg', u', v3, rd_x (h6.1 rfl), g1, hQ0 _ (h7.2 rfl).2, g2, SN_tr (SN_tr (SM_sn sm) snS) (SM_sn (SM_tr k3 g3))⟩
      · exact Or.inl ⟨pg1, t', v', rd_x (((e5_isSound (hu nz)).2 nz).1 rfl), nz, hQ0 _ q, f, SM_sn sm⟩

/-! A program read but not done. -/
def PX (O : (Int32 → Md → Prop) → Md → Int32 → Prop) (P : Int32 → Md → Prop) (m : Nat) (v : Md) (x : Int32) : Prop := GL O P (fun t _ => P 0 t) (fun t _ => P 1 t) m v x
theorem px_sep {O : (Int32 → Md → Prop) → Md → Int32 → Prop} {P : Int32 → Md → Prop} {m0 : Md} {R W D : Int} {t t' : Tp} {m : Nat} {v : Md} {x : Int32} (hs : SEP m0 R W D t t') (hV : VV m0 R W D t v) (h : PX O P m v x) : ∃ v' m', VV m0 R W D t' v' ∧ SM v v' ∧ O (fun r u => (¬ r = 0 → PX O P m' u x) ∧ (r = 0 → P 0 u)) v' x := by
  cases m with
  | zero => exact (show False from h).elim
  | succ m =>
    unfold PX GL at h
    obtain ⟨v', h, a, b⟩ := hs v hV _ h
    exact ⟨v', m, a, b, h.2 (by decide)⟩
theorem px_nsp {O : (Int32 → Md → Prop) → Md → Int32 → Prop} {P : Int32 → Md → Prop} {m0 : Md} {R W D : Int} {t t' : Tp} {m : Nat} {v : Md} {x : Int32} (hs : NSP m0 R W D t t') (hV : VV m0 R W D t v) (h : PX O P m v x) : ∃ v', VV m0 R W D t' v' ∧ SM v v' ∧ P 1 v' := by
  cases m with
  | zero => exact (show False from h).elim
  | succ m =>
    unfold PX GL at h
    obtain ⟨v', h, a, b⟩ := hs v hV _ h
    exact ⟨v', a, b, h.1 rfl⟩
theorem id_ro {Q : Int32 → Md → Prop} {v : Md} {x : Int32} (h : wp_X7_isDone Q v x) (hr : x = 0 ∨ v.1 13 = 200) : Q 0 v := by
  unfold wp_X7_isDone at h
  by_cases c : x = 0
  · exact h.1 c
  · rcases hr with hr | hr
    · exact (c hr).elim
    · exact (h.2 c).2 hr
/-- into a body, at the place where it begins -/
def inB (v : Md) : Md := ((va_up (va_up v.1 14 ((v.1 14) + 1)) 6 (v.1 6)), v.2.1, v.2.2.1, v.2.2.2)
def outB (v : Md) : Md := ((va_up v.1 14 ((v.1 14) - 1)), v.2.1, v.2.2.1, v.2.2.2)
theorem ad_sb (a : Int32) : a + 1 - 1 = a := by
  rw [Int32.add_comm]
  exact sub_add32 1 a
theorem SM_io {v v2 v3 : Md} (a : SM (inB v) v2) (b : SM v2 v3) : SM v (outB v3) := by
  have q := SM_tr a b
  refine ⟨fun i hi => ?_, q.2⟩
  show va_up v3.1 14 (v3.1 14 - 1) i = _
  by_cases g : i = 14
  · subst g
    rw [va_up_self, q.1 14 (by decide)]
    show v.1 14 + 1 - 1 = _
    exact ad_sb _
  · rw [va_n g, q.1 i hi]
    show va_up (va_up v.1 14 (v.1 14 + 1)) 6 (v.1 6) i = _
    rw [va_n (fun e => hi (by rw [e]; decide)), va_n g]
def MRO (m0 : Md) (R W D : Int) (d : Nat) (t : Tp) (t' : Tp) : Prop := ∀ (La Lb : LTY) (Q P : Int32 → Md → Prop) (v : Md) (x : Int32), d ≤ 3 → (d < 3 → Lb = GTL (LV (3 - d))) → VV m0 R W D t v → (v.1 14).toInt = (d : Int) → (x = 0 ∨ v.1 13 = 200) → GO (GT La Lb) Q v x → (∀ u, Q 1 u → ∃ m, PX (GO (GT La Lb)) P m u x) → ∃ v', P 1 v' ∧ VV m0 R W D t' v' ∧ SM v v'
/-- a body, read but not done, to the byte behind it -/
theorem ro_body {m0 : Md} {R W D : Int} {d : Nat} {t1 t2 : Tp} (d3 : d < 3) (ih : MRO m0 R W D (d + 1) t1 t2) {P : Int32 → Md → Prop} {v : Md} {x : Int32} (hV : VV m0 R W D t1 v) (h14 : (v.1 14).toInt = (d : Int) + 1) (hr : x = 0 ∨ v.1 13 = 200) (h : LV (3 - d) P v x) : ∃ v', P 1 v' ∧ VV m0 R W D t2 v' ∧ SM v v' := by
  obtain ⟨La', Lb', eL, hL'⟩ := LV_e (k := 3 - d) (by omega) (by omega)
  rw [eL] at h
  unfold GA at h
  exact ih La' Lb' _ P v x (by omega) (fun g => by rw [hL' (by omega)]; congr 1) hV (by omega) hr h (fun u g => g.1 (by decide))
theorem ro_times {m0 : Md} {R W D : Int} {d : Nat} {t t1 t2 t3 : Tp} {n : Int32} (d3 : d < 3) (hst : TST m0 R W D d t n t1) (ih : MRO m0 R W D (d + 1) t1 t2) (hc : CLS m0 R W D t2 t3) {La Lb : LTY} {Q : Int32 → Md → Prop} {v : Md} {x : Int32} (hL : d < 3 → Lb = GTL (LV (3 - d))) (hV : VV m0 R W D t v) (h14 : (v.1 14).toInt = (d : Int)) (hr : x = 0 ∨ v.1 13 = 200) (h7 : GO (GT La Lb) Q v x) : ∃ v', Q 1 v' ∧ VV m0 R W D t3 v' ∧ SM v v' := by
  have e1 : (1 : Int32).toInt = 1 := rfl
  obtain ⟨v1, vv1, s1, h7⟩ := hst v La Lb Q x hV h14 h7
  have a14 : v1.1 14 = v.1 14 := s1.1 14 (by decide)
  have i14 := congrArg Int32.toInt a14
  have s14 := nw (tq_addr e1 (v1.1 14)) (by omega)
  obtain ⟨n90, h7⟩ := id_ro h7 (by rw [s1.1 13 (by decide)]; exact hr)
  rw [hL d3] at h7
  cases n90 with
  | zero => exact (show False from h7).elim
  | succ n90 =>
    unfold GTL at h7
    have h7 := (h7.1 rfl).1 rfl
    have h7 : LV (3 - d) _ (inB v1) 0 := h7
    obtain ⟨v2, h7, vv2, s2⟩ := ro_body d3 ih (show VV m0 R W D t1 (inB v1) from vv1) (by show (v1.1 14 + 1).toInt = _; omega) (Or.inl rfl) h7
    have h7 := h7.1 (by decide)
    cases n90 with
    | zero => exact (show False from h7).elim
    | succ n90 =>
      unfold GTL at h7
      have h7 := h7.2 (by decide)
      have h7 : ET (WP Q) v2 x n 0 (v1.1 6) (0 + 1) := by
        by_cases c : n ≤ 0 + 1
        · exact h7.1 c
        · exact (h7.2 c).1 rfl
      unfold ET at h7
      obtain ⟨v3, h7, vv3, s3⟩ := hc v2 vv2 _ h7
      exact ⟨outB v3, (h7.1 (by decide)).2, vv3, SM_tr s1 (SM_io s2 s3)⟩
theorem prs_ro {m0 : Md} {R W D : Int} {s : Pg} {d : Nat} {t t' : Tp} {lo hi : Nat} (h : PRS m0 R W D s d t lo t' hi) : MRO m0 R W D d t t' := by
  refine PRS_ind (M := fun d t _ t' _ => MRO m0 R W D d t t') (fun d t t1 t2 k a b q lo bst kb ns _ => ?_) (fun d t t1 t2 t3 k a b q lo hi bst kb sp _ pr ih => ?_) (fun d t t1 t2 t3 t4 n lo e tst d3 nb _ pb ihb cl ns => ?_) (fun d t t1 t2 t3 t4 t5 n lo e hi tst d3 nb _ pb ihb cl sp pr ih => ?_) h
  · intro La Lb Q P v x hd hL hV h14 hr h7 hQ
    obtain ⟨_, _, v1, vv1, s1, h7⟩ := bst v _ Q x hV h7
    obtain ⟨m, h7⟩ := hQ _ ((id_ro h7 (by rw [s1.1 13 (by decide)]; exact hr)).1 rfl).2
    obtain ⟨v2, vv2, s2, h7⟩ := px_nsp ns vv1 h7
    exact ⟨v2, h7, vv2, SM_tr s1 s2⟩
  · intro La Lb Q P v x hd hL hV h14 hr h7 hQ
    obtain ⟨_, _, v1, vv1, s1, h7⟩ := bst v _ Q x hV h7
    obtain ⟨m, h7⟩ := hQ _ ((id_ro h7 (by rw [s1.1 13 (by decide)]; exact hr)).1 rfl).2
    obtain ⟨v2, m', vv2, s2, h7⟩ := px_sep sp vv1 h7
    have s := SM_tr s1 s2
    obtain ⟨v3, q1, q2, q3⟩ := ih La Lb _ P v2 x hd hL vv2 (by rw [s.1 14 (by decide)]; exact h14) (by rw [s.1 13 (by decide)]; exact hr) h7 (fun u g => ⟨m', g.1 (by decide)⟩)
    exact ⟨v3, q1, q2, SM_tr s q3⟩
  · intro La Lb Q P v x hd hL hV h14 hr h7 hQ
    obtain ⟨v1, h7, vv1, s1⟩ := ro_times d3 tst ihb cl hL hV h14 hr h7
    obtain ⟨m, h7⟩ := hQ _ h7
    obtain ⟨v2, vv2, s2, h7⟩ := px_nsp ns vv1 h7
    exact ⟨v2, h7, vv2, SM_tr s1 s2⟩
  · intro La Lb Q P v x hd hL hV h14 hr h7 hQ
    obtain ⟨v1, h7, vv1, s1⟩ := ro_times d3 tst ihb cl hL hV h14 hr h7
    obtain ⟨m, h7⟩ := hQ _ h7
    obtain ⟨v2, m', vv2, s2, h7⟩ := px_sep sp vv1 h7
    have s := SM_tr s1 s2
    obtain ⟨v3, q1, q2, q3⟩ := ih La Lb _ P v2 x hd hL vv2 (by rw [s.1 14 (by decide)]; exact h14) (by rw [s.1 13 (by decide)]; exact hr) h7 (fun u g => ⟨m', g.1 (by decide)⟩)
    exact ⟨v3, q1, q2, SM_tr s q3⟩

/-! A step done on both sides. -/
def XG (u v : Md) : Prop := ie [1, 2] v.1 u.1 ∧ (∀ k, (k = 1 ∨ k = 2 ∨ k = 3) → v.2.2.1 k = u.2.2.1 k) ∧ v.2.2.2 0 = u.2.2.2 0 ∧ v.2.2.2 2 = u.2.2.2 2
theorem FN_xg {u v : Md} (h : FN u v) : XG u v := ⟨by rw [h.1]; exact ie_refl _ _, fun k hk => h.2.2.1 k (by omega), by rw [h.2.2.2], by rw [h.2.2.2]⟩
theorem TG_xg {u v : Md} (h : TG u v) : XG u v := ⟨h.1.2.2, fun k hk => by
  rcases hk with rfl | rfl | rfl
  · exact h.2.1
  · exact h.2.2.1
  · exact h.2.2.2.1, by rw [h.2.2.2.2], by rw [h.2.2.2.2]⟩
theorem of_has {P : Int32 → Prop} {s : Pg} {x : Int32} (h0 : 0 ≤ x.toInt) (h1 : x.toInt < (s.1 1).toInt) (h : wp_X4_hasStep P s x) : P 1 := by
  have e0 : (0 : Int32).toInt = 0 := rfl
  unfold wp_X4_hasStep at h
  exact (h.2 (fun c => by have := q_lt c; omega)).2 (fun c => by have := q_le c; omega)
theorem of_kind {P : Int32 → Prop} {s : Pg} {x : Int32} (h0 : 0 ≤ x.toInt) (h1 : x.toInt < (s.1 1).toInt) (h : wp_X4_kindOf P s x) : P (s.2 0 x.toInt.toNat) := by
  unfold wp_X4_kindOf at h
  have h := ((of_has h0 h1 h).2 (by decide)).2
  rw [tn_i] at h
  exact h
theorem of_one {P : Int32 → Prop} {s : Pg} {x : Int32} (h0 : 0 ≤ x.toInt) (h1 : x.toInt < (s.1 1).toInt) (h : wp_X4_oneOf P s x) : P (s.2 1 x.toInt.toNat) := by
  unfold wp_X4_oneOf at h
  have h := ((of_has h0 h1 h).2 (by decide)).2
  rw [tn_i] at h
  exact h
theorem of_two {P : Int32 → Prop} {s : Pg} {x : Int32} (h0 : 0 ≤ x.toInt) (h1 : x.toInt < (s.1 1).toInt) (h : wp_X4_twoOf P s x) : P (s.2 2 x.toInt.toNat) := by
  unfold wp_X4_twoOf at h
  have h := ((of_has h0 h1 h).2 (by decide)).2
  rw [tn_i] at h
  exact h
theorem of_quo {P : Int32 → Prop} {s : Pg} {x : Int32} (h0 : 0 ≤ x.toInt) (h1 : x.toInt < (s.1 1).toInt) (h : wp_X4_quotedOf P s x) : P (s.2 3 x.toInt.toNat) := by
  unfold wp_X4_quotedOf at h
  have h := ((of_has h0 h1 h).2 (by decide)).2
  rw [tn_i] at h
  exact h
theorem of_end {P : Int32 → Prop} {s : Pg} {x : Int32} (h0 : 0 ≤ x.toInt) (h1 : x.toInt < (s.1 1).toInt) (h : wp_X4_endOf P s x) : P (s.2 4 x.toInt.toNat) := by
  unfold wp_X4_endOf at h
  have h := ((of_has h0 h1 h).2 (by decide)).2
  rw [tn_i] at h
  exact h
theorem sm_lost {P6 : Bd → Prop} {P7 : Md → Prop} {b : Bd} {v : Md} {x y : Int32} {N R W D : Int} (hM : mb N R W D v) (hB : RB b (v.2.2.1 0)) (h0 : 0 ≤ x.toInt) (h1 : x.toInt < R * W) (hy : 0 ≤ y.toInt ∧ y.toInt ≤ 9) (h6 : wp_X0_setLost P6 b x y) (h7 : wp_X7_sets P7 v x 4 (Int32.toInt64 y)) : ∃ b' v', P6 b' ∧ P7 v' ∧ RB b' (v'.2.2.1 0) ∧ FN v v' := by
  have hf := hM.2.2.2.2.1
  have hR := hf.2.2.2.2.2.1
  have hc := RB_cells hf hB
  have at_ := (RB_at (c := x.toInt.toNat) hf hB (by omega)).1
  obtain ⟨w, h7, f1, gw⟩ := e7_sets (i := 4) h0 (by omega) rfl (by decide) h7
  unfold wp_X0_setLost at h6
  rcases e0_hasCell hc.2.2.1 h6 with ⟨h6, _⟩ | ⟨_, g⟩
  · have h6 := (h6.2 (by decide)).2
    rw [tn_i] at h6
    refine ⟨_, w, h6, h7, ?_, f1⟩
    rw [gw]
    refine RB_c (c := x.toInt.toNat) hB rfl ⟨rfl, rfl, rfl⟩ (fun j hj i hi => ?_) (fun i hi => rfl) (fun i hi => uL_n (by omega)) ⟨fun j hj => ?_, ?_⟩
    · show va_up b.2.1 7 _ (3 + j) i = _
      by_cases q : j = 4
      · subst q
        exact up_n hi
      · rw [va_n (by omega)]
    · show va_up b.2.1 7 _ (3 + j) x.toInt.toNat = _
      by_cases q : j = 4
      · subst q
        rw [uL_e, t32_64]
        exact up_e
      · rw [va_n (by omega), uL_n (by omega)]
        exact at_ j hj
    · rw [uL_n (by omega)]
      exact ⟨(RB_at (c := x.toInt.toNat) hf hB (by omega)).2, RB_w (c := x.toInt.toNat) hf hB (by omega)⟩
  · omega
theorem sm_home_L {P6 : Bd → Prop} {Q : Md → Prop} {p : Int32 → Md → Prop} {z1 x : Int32} {N R W D : Int} (hD : 0 < D) (hx : 0 ≤ z1.toInt ∧ z1.toInt < R) : ∀ (n6 n7 : Nat) (b : Bd) (v : Md) (z : Int32), 0 ≤ z.toInt → z.toInt ≤ W → v.1 8 = z1 → RB b (v.2.2.1 0) → mb N R W D v → wp_X0_wantHome_L2 P6 (fun t0 _ _ => P6 t0) n6 b z1 z → wp_X7_goesHome_L38 p (fun w _ _ => Q w) n7 v x z → ∃ b' v', P6 b' ∧ Q v' ∧ RB b' (v'.2.2.1 0) ∧ mb N R W D v' ∧ FN v v' := by
  have e1 : (1 : Int32).toInt = 1 := rfl
  have e0 : (0 : Int32).toInt = 0 := rfl
  intro n6
  induction n6 with
  | zero =>
    intro n7 b v z _ _ _ _ _ h
    exact (show False from h).elim
  | succ n6 ih =>
    intro n7 b v z h0 h1 h8 hB hM h6 h7
    cases n7 with
    | zero => exact (show False from h7).elim
    | succ n7 =>
      have hf := hM.2.2.2.2.1
      have hR := hf.2.2.2.2.2.1
      have rc := RB_cells hf hB
      have rn := rw_n hf
      have k := nrow hx.1 hx.2 (W := W) (by omega)
      unfold wp_X0_wantHome_L2 at h6
      unfold wp_X7_goesHome_L38 at h7
      have h7 := wide_e h7
      have ew : Int64.toInt32 (v.2.2.1 0 1) = b.1 1 := Int32.toInt_inj.mp (rn.2.1.trans rc.2.1.symm)
      rw [ew] at h7
      by_cases c : b.1 1 ≤ z
      · exact ⟨b, v, h6.1 c, h7.1 c, hB, hM, FN_rf v⟩
      · have := q_nle c
        have h6 := (h6.2 c).2
        have h7 := wide_e (h7.2 c)
        rw [ew, h8] at h7
        have m1 : (z1 * b.1 1).toInt = z1.toInt * W := by
          have := tq_mul z1 (b.1 1)
          rw [rc.2.1] at this
          exact nw this (by omega)
        have m2 := nw (tq_add (z1 * b.1 1) z) (by omega)
        have em : b.1 1 * z1 = z1 * b.1 1 := Int32.mul_comm _ _
        rw [em] at h7
        generalize hcc : z1 * b.1 1 + z = cc at *
        obtain ⟨q0, q1, q2, q3, q4, q5⟩ := cl_f (c := cc.toInt.toNat) hf hD (by omega)
        have sz := nw (tq_addr e1 z) (by omega)
        have fp : (0 : Int) < fl_c (v.2.2.1 0) cc := by
          show 0 < d_f (v.2.2.1 0) (c_f (v.2.2.1 0) cc.toInt.toNat 0).toNat
          omega
        have h7 := dt_conj (dt_X7_wantsFlap v cc 0 0) h7 (wq_X7_wantsFlap (post := fun u => mb N R W D u) hM ⟨by omega, by omega⟩ hD ⟨by decide, by decide, by rw [e0]; exact fp⟩ (fun u a _ => a))
        obtain ⟨v', ⟨h7, m7⟩, f1, g1⟩ := e7_wantsFlap hf hD (by omega) (by omega) (by decide) h7
        rw [tn_i] at h6
        have at_ := RB_at (c := cc.toInt.toNat) hf hB (by omega)
        have B2 : RB (b.1, (va_up b.2.1 6 (upd (b.2.1 6) cc.toInt.toNat 0)), b.2.2.1, b.2.2.2.1, b.2.2.2.2) (vp_updL (v.2.2.1 0) (176 + 8 * cc.toInt.toNat + 3) (Int32.toInt64 0)) := by
          refine RB_c (c := cc.toInt.toNat) hB rfl ⟨rfl, rfl, rfl⟩ (fun j hj i hi => ?_) (fun i hi => rfl) (fun i hi => uL_n (by omega)) ⟨fun j hj => ?_, ?_⟩
          · show va_up b.2.1 6 _ (3 + j) i = _
            by_cases q : j = 3
            · subst q
              exact up_n hi
            · rw [va_n (by omega)]
          · show va_up b.2.1 6 _ (3 + j) cc.toInt.toNat = _
            by_cases q : j = 3
            · subst q
              rw [uL_e, t32_64]
              exact up_e
            · rw [va_n (by omega), uL_n (by omega)]
              exact at_.1 j hj
          · rw [uL_n (by omega)]
            exact ⟨at_.2, RB_w (c := cc.toInt.toNat) hf hB (by omega)⟩
        obtain ⟨b', v2, r1, r2, r3, r4, r5⟩ := ih n7 (b.1, (va_up b.2.1 6 (upd (b.2.1 6) cc.toInt.toNat 0)), b.2.2.1, b.2.2.2.1, b.2.2.2.2) v' (z + 1) (by omega) (by omega) (by rw [f1.1]; exact h8) (RB_cgr m7.2.2.2.2.1 g1 B2) m7 h6 h7
        exact ⟨b', v2, r1, r2, r3, r4, FN_tr f1 r5⟩
theorem e7_wait_i {Q : Md → Prop} {p : Int32 → Md → Prop} {b : Bd} {x : Int32} {N R W D : Int} (hD : 0 < D) : ∀ (n : Nat) (v : Md) (z : Int32), mb N R W D v → RB b (v.2.2.1 0) → IDL (v.2.2.1 0) R W → wp_X7_goesWait_L34 p (fun w _ _ => Q w) n v x z → ∃ v', Q v' ∧ v'.2.2.1 0 = v.2.2.1 0 ∧ mb N R W D v' ∧ TG v v' := by
  intro n
  induction n with
  | zero =>
    intro v z _ _ _ h
    exact (show False from h).elim
  | succ n ih =>
    intro v z hM hB hI h
    unfold wp_X7_goesWait_L34 at h
    by_cases c : v.1 8 ≤ z
    · exact ⟨v, h.1 c, rfl, hM, TG_rf v⟩
    · obtain ⟨v1, h, a1, a2, a3⟩ := e7_idle hM hD hB hI (h.2 c)
      obtain ⟨v', r1, r2, r3, r4⟩ := ih v1 (z + 1) a2 (by rw [a1]; exact hB) (by rw [a1]; exact hI) h
      exact ⟨v', r1, r2.trans a1, r3, TG_tr a3 r4⟩
theorem e7_wait_t {p : Int32 → Md → Prop} {e : Md → Int32 → Int32 → Prop} {x : Int32} {a a' : Nat → Int32} {v v' : Md} {k : Nat} (ht : TT a v a' v' k) : ∀ (n : Nat) (z : Int32), (v.1 8).toInt ≤ 9999 → 0 ≤ z.toInt → z.toInt + (k : Int) ≤ (v.1 8).toInt → wp_X7_goesWait_L34 p e n v x z → v'.1 8 = v.1 8 ∧ ∃ n' z', z'.toInt = z.toInt + (k : Int) ∧ wp_X7_goesWait_L34 p e n' v' x z' := by
  have e1 : (1 : Int32).toInt = 1 := rfl
  refine TT_ind (M := fun a v a' v' k => ∀ (n : Nat) (z : Int32), (v.1 8).toInt ≤ 9999 → 0 ≤ z.toInt → z.toInt + (k : Int) ≤ (v.1 8).toInt → wp_X7_goesWait_L34 p e n v x z → v'.1 8 = v.1 8 ∧ ∃ n' z', z'.toInt = z.toInt + (k : Int) ∧ wp_X7_goesWait_L34 p e n' v' x z') (fun a a' v g => ?_) (fun a a' v v1 v' r fo k g t ih => ?_) k ht
  · intro n z _ _ _ h
    exact ⟨rfl, n, z, by omega, h⟩
  · intro n z h8 h0 h1 h
    cases n with
    | zero => exact (show False from h).elim
    | succ n =>
      unfold wp_X7_goesWait_L34 at h
      have s := nw (tq_addr e1 z) (by omega)
      have e8 := g.2.2.2.2.2.2.2.1.2.2 8 (by decide)
      have h := g.1 _ (h.2 (fun c => by have := q_le c; omega))
      obtain ⟨q, n', z', r1, r2⟩ := ih n (z + 1) (by rw [e8]; exact h8) (by omega) (by rw [e8]; omega) h
      exact ⟨q.trans e8, n', z', by omega, r2⟩
/-- a step done -/
theorem sm_do {P6 : Bd → Mo → Prop} {Q : Md → Prop} {s1 : Tp} {b : Bd} {mo : Mo} {pg : Pg} {x k a bb q : Int32} {m0 u : Md} {N R W D : Int} (hD : 0 < D) (hx : RX s1 m0) (hk : KB m0 R W k a bb q) (hi : (0 ≤ x.toInt ∧ x.toInt < (pg.1 1).toInt) ∧ pg.2 0 x.toInt.toNat = k ∧ pg.2 1 x.toInt.toNat = a ∧ pg.2 2 x.toInt.toNat = bb ∧ pg.2 3 x.toInt.toNat = q) (hB : RB b (u.2.2.1 0)) (hM : mb N R W D u) (hv : u.2.2.2 2 = m0.2.2.2 2) (h6 : wp_X6_doStep P6 s1 b mo pg x) (h7 : DO k a bb q Q u) : ∃ b' mo' v', P6 b' mo' ∧ Q v' ∧ RB b' (v'.2.2.1 0) ∧ mb N R W D v' ∧ XG u v' := by
  obtain ⟨⟨i0, i1⟩, i2, i3, i4, i5⟩ := hi
  obtain ⟨k0, k6, k8, k9, k10, k7⟩ := hk
  obtain ⟨d6, d7, d8, d9, d10, d11⟩ := h7
  unfold wp_X6_doStep at h6
  have h6 := of_kind i0 i1 (of_two i0 i1 (of_one i0 i1 h6))
  rw [i2, i3, i4] at h6
  by_cases c6 : k = 6
  · have h6 := of_quo i0 i1 (h6.1 c6)
    rw [i5] at h6
    obtain ⟨r, b', v', g1, g2, g3, g4, g5⟩ := sm_wantSigns hD hx (k6 c6).1 (k6 c6).2.1 (k6 c6).2.2.1 (k6 c6).2.2.2.1 (k6 c6).2.2.2.2 hB hM hv h6 (d6 c6)
    exact ⟨b', mo, v', g1, g2, g3, g4, FN_xg g5⟩
  have h6 := h6.2 c6
  by_cases c7 : k = 7
  · have hk7 := k7 c7
    have hR := hM.2.2.2.2.1.2.2.2.2.2.1
    have y64 := tq_64 bb
    have h7 := dt_conj (dt_X7_sets u a 4 (Int32.toInt64 bb)) (d7 c7) (wq_X7_sets_4 (post := fun w => mb N R W D w) hM ⟨hk7.1.1, by omega⟩ (by omega) (fun w a _ _ => a))
    obtain ⟨b', v', g1, ⟨g2, g4⟩, g3, g5⟩ := sm_lost hM hB hk7.1.1 hk7.1.2 hk7.2 (h6.1 c7) h7
    exact ⟨b', mo, v', g1, g2, g3, g4, FN_xg g5⟩
  have h6 := h6.2 c7
  by_cases c8 : k = 8
  · have h6 := of_quo i0 i1 (h6.1 c8)
    rw [i5] at h6
    obtain ⟨r, b', v', g1, g2, g3, g4, g5, g6, g7⟩ := sm_scrolls hD hx (k8 c8).1 (k8 c8).2.1 (k8 c8).2.2.1 (k8 c8).2.2.2 hB hM hv h6 (d8 c8)
    exact ⟨b', mo, v', g1, g2, g3, g4, by rw [g5]; exact ie_refl _ _, fun k hk => g6 k (by omega), g7 0 (by decide), g7 2 (by decide)⟩
  have h6 := h6.2 c8
  by_cases c9 : k = 9
  · obtain ⟨e8, p, n7, x7, h7⟩ := d9 c9
    have h6 := h6.1 c9
    unfold wp_X0_wantHome at h6
    obtain ⟨n6, h6⟩ := h6
    have hR := hM.2.2.2.2.1.2.2.2.2.2.1
    obtain ⟨b', v', g1, g2, g3, g4, g5⟩ := sm_home_L hD (k9 c9) n6 n7 b u 0 (by decide) (by show (0 : Int) ≤ W; omega) e8 hB hM h6 h7
    exact ⟨b', mo, v', g1, g2, g3, g4, FN_xg g5⟩
  have h6 := h6.2 c9
  by_cases c10 : k = 10
  · obtain ⟨e8, p, n7, x7, h7⟩ := d10 c10
    have ka := k10 c10
    have e0 : (0 : Int32).toInt = 0 := rfl
    obtain ⟨kk, t', b', v', r1, r2, r3, r4, r5, r6, r7⟩ := sm_trn hM hD hB (by omega) (by omega) (h6.1 c10)
    obtain ⟨e8', n', z', y1, y2⟩ := e7_wait_t r2 n7 0 (by rw [e8]; omega) (by decide) (by rw [e8, e0]; omega) h7
    rw [e0] at y1
    rcases r7 with r7 | r7
    · cases n' with
      | zero => exact (show False from y2).elim
      | succ n' =>
        unfold wp_X7_goesWait_L34 at y2
        exact ⟨b', t', v', r1, y2.1 (Int32.le_iff_toInt_le.mpr (by rw [e8', e8]; omega)), r3, r4, TG_xg r5⟩
    · obtain ⟨w, w1, w2, w3, w4⟩ := e7_wait_i (b := b') hD n' v' z' r4 r3 r7 y2
      exact ⟨b', t', w, r1, w1, by rw [w2]; exact r3, w3, TG_xg (TG_tr r5 w4)⟩
  have h6 := h6.2 c10
  by_cases c11 : k = 11
  · obtain ⟨t', b', v', r1, r2, r3, r4, r5⟩ := sm_settles hM hD hB (h6.1 c11) (d11 c11)
    exact ⟨b', t', v', r1, r2, r3, r4, TG_xg r5⟩
  rcases k0 with g | g | g | g | g | g
  · exact (c6 g).elim
  · exact (c7 g).elim
  · exact (c8 g).elim
  · exact (c9 g).elim
  · exact (c10 g).elim
  · exact (c11 g).elim

/-! A program done on both sides. -/
def R9 (s1 : Tp) (post : Int32 → Bd → Mo → Pg → Prop) (n : Nat) (b : Bd) (mo : Mo) (pg : Pg) (c : Int32) : Prop := wp_X6_doProgram_L9 s1 post (fun t2 t3 t4 _ => post 200 t2 t3 t4) n b mo pg c
def WL (K : Pg → Prop) (n : Nat) (pg : Pg) (z : Int32) : Prop := wp_X4_goOn_L99 K (fun t _ => K t) n pg z
theorem wl_b {p : Pg → Prop} {e : Pg → Int32 → Prop} : ∀ (n : Nat) (s : Pg) (z : Int32), wp_X4_goOn_L99b p e n s z = wp_X4_goOn_L99 p e n s z := by
  intro n
  induction n with
  | zero => intro s z; rfl
  | succ n ih =>
    intro s z
    unfold wp_X4_goOn_L99b wp_X4_goOn_L99
    simp only [ih]
def AR5 (pg0 pg : Pg) : Prop := pg.1 1 = pg0.1 1 ∧ ∀ j, j < 5 → pg.2 j = pg0.2 j
def ENC (pg0 pg : Pg) (d hi : Nat) : Prop := d = 0 ∨ (1 ≤ d ∧ d ≤ 3 ∧ ∃ o : Nat, (pg.2 5 (d - 1)).toInt = (o : Int) ∧ (o : Int) < (pg0.1 1).toInt ∧ (pg0.2 4 o).toInt = (hi : Int))
theorem wl_end {K : Pg → Prop} {pg0 pg : Pg} {d hi n : Nat} {z : Int32} (h : WL K n pg z) (h5 : AR5 pg0 pg) (hd : (pg.1 0).toInt = (d : Int)) (enc : ENC pg0 pg d hi) (hz : z.toInt < 3) (hat : (pg.1 2).toInt = (hi : Int)) (hd1 : 1 ≤ d) : (pg.2 6 (d - 1) ≤ 0 ∧ ∃ n', WL K n' ((va_up pg.1 0 ((pg.1 0) - 1)), pg.2) (z + 1)) ∨ (¬ pg.2 6 (d - 1) ≤ 0 ∧ ∃ n', WL K n' ((va_up pg.1 2 ((pg.2 5 (d - 1)) + 1)), (va_up pg.2 6 (upd (pg.2 6) (d - 1) ((pg.2 6 (d - 1)) - 1)))) (z + 1)) := by
  have e0 : (0 : Int32).toInt = 0 := rfl
  have e1 : (1 : Int32).toInt = 1 := rfl
  have e3 : (3 : Int32).toInt = 3 := rfl
  rcases enc with g | ⟨g1, g2, o, o1, o2, o3⟩
  · omega
  have sz := congrArg Int32.toInt h5.1
  have a4 := h5.2 4 (by decide)
  have s1 := nw (tq_subr e1 (pg.1 0)) (by omega)
  have ed : Int32.toNatClampNeg (pg.1 0 - 1) = d - 1 := by
    rw [tn_i]
    omega
  cases n with
  | zero => exact (show False from h).elim
  | succ n =>
    unfold WL wp_X4_goOn_L99 at h
    have h := ((h.2 (fun c => by have := q_le c; omega)).2 (fun c => by have := q_le c; omega)).2
    rw [ed] at h
    have h := of_end (by omega) (by omega) h
    rw [o1] at h
    have h := (h.2 (Int32.toInt_inj.mp (by rw [a4]; show (pg.1 2).toInt = (pg0.2 4 o).toInt; omega))).2
    by_cases c : pg.2 6 (d - 1) ≤ 0
    · exact Or.inl ⟨c, n, h.1 c⟩
    · exact Or.inr ⟨c, n, (h.2 c).2.2.2⟩
theorem wl_exit {K : Pg → Prop} {pg0 pg : Pg} {d hi n : Nat} {z : Int32} (h : WL K n pg z) (h5 : AR5 pg0 pg) (hd : (pg.1 0).toInt = (d : Int)) (enc : ENC pg0 pg d hi) (hat : d = 0 ∨ ¬ (pg.1 2).toInt = (hi : Int)) : K pg := by
  have e0 : (0 : Int32).toInt = 0 := rfl
  have e1 : (1 : Int32).toInt = 1 := rfl
  have sz := congrArg Int32.toInt h5.1
  have a4 := h5.2 4 (by decide)
  cases n with
  | zero => exact (show False from h).elim
  | succ n =>
    unfold WL wp_X4_goOn_L99 at h
    by_cases c3 : 3 ≤ z
    · exact h.1 c3
    · have h := h.2 c3
      by_cases c0 : pg.1 0 ≤ 0
      · exact h.1 c0
      · have := q_nle c0
        have h := (h.2 c0).2
        rcases enc with g | ⟨g1, g2, o, o1, o2, o3⟩
        · omega
        have s1 := nw (tq_subr e1 (pg.1 0)) (by omega)
        have ed : Int32.toNatClampNeg (pg.1 0 - 1) = d - 1 := by
          rw [tn_i]
          omega
        rw [ed] at h
        have h := of_end (by omega) (by omega) h
        rw [o1, a4] at h
        refine h.1 (fun g => ?_)
        have g : pg.1 2 = pg0.2 4 o := g
        have := congrArg Int32.toInt g
        omega
def XH (v v' : Md) : Prop := (v'.1 0 = v.1 0 ∧ v'.1 5 = v.1 5 ∧ v'.1 14 = v.1 14) ∧ (∀ k, (k = 1 ∨ k = 2 ∨ k = 3) → v'.2.2.1 k = v.2.2.1 k) ∧ v'.2.2.2 0 = v.2.2.2 0 ∧ v'.2.2.2 2 = v.2.2.2 2
theorem XH_tr {u v w : Md} (a : XH u v) (b : XH v w) : XH u w := ⟨⟨b.1.1.trans a.1.1, b.1.2.1.trans a.1.2.1, b.1.2.2.trans a.1.2.2⟩, fun k hk => (b.2.1 k hk).trans (a.2.1 k hk), b.2.2.1.trans a.2.2.1, b.2.2.2.trans a.2.2.2⟩
theorem SM_xh {v w : Md} (h : SM v w) : XH v w := ⟨⟨h.1 0 (by decide), h.1 5 (by decide), h.1 14 (by decide)⟩, fun _ _ => by rw [h.2], by rw [h.2], by rw [h.2]⟩
theorem XG_xh {v w : Md} (h : XG v w) : XH v w := ⟨⟨h.1 0 (by decide), h.1 5 (by decide), h.1 14 (by decide)⟩, h.2.1, h.2.2.1, h.2.2.2⟩
theorem VV_xg {m0 : Md} {N R W D : Int} {t : Tp} {v w : Md} (h : VV m0 R W D t v) (hM : mb N R W D w) (g : XG v w) : VV m0 R W D t w := by
  obtain ⟨⟨⟨a1, a2, a3, a4, a5⟩, b1, b2, b3, b4⟩, c1, c2, c3⟩ := h
  have e5 : w.1 5 = v.1 5 := g.1 5 (by decide)
  have e6 : w.1 6 = v.1 6 := g.1 6 (by decide)
  refine ⟨⟨⟨?_, ?_, ?_, ?_, ?_⟩, ?_, ?_, ?_, b4⟩, hM.2.2.2.2.1, ?_, ?_⟩
  · rw [e5]; exact a1
  · rw [g.2.2.2]; exact a2
  · rw [e5]; exact a3
  · rw [e5]; exact a4
  · rw [g.2.2.2]; exact a5
  · rw [e6]; exact b1
  · rw [e6]; exact b2
  · rw [e5, e6]; exact b3
  · rw [e5]; exact c2
  · rw [g.2.2.2]; exact c3
def ES (pg0 pg : Pg) (d : Nat) (pg' : Pg) : Prop := AR5 pg0 pg' ∧ pg'.1 0 = pg.1 0 ∧ ∀ i : Nat, i < d → pg'.2 5 i = pg.2 5 i ∧ pg'.2 6 i = pg.2 6 i
/-- behind a list -/
def EO (s1 : Tp) (post : Int32 → Bd → Mo → Pg → Prop) (pg0 : Pg) (m0 : Md) (N R W D : Int) (d : Nat) (t' : Tp) (hi : Nat) (P : Int32 → Md → Prop) (v : Md) (pg : Pg) (c : Int) : Prop := (∃ v' n' c' n99 pg' b' mo' z, P 1 v' ∧ VV m0 R W D t' v' ∧ mb N R W D v' ∧ RB b' (v'.2.2.1 0) ∧ XH v v' ∧ v'.1 13 = c' ∧ (c < c'.toInt ∧ c'.toInt ≤ 200) ∧ WL (fun u => R9 s1 post n' b' mo' u c') n99 pg' z ∧ (pg'.1 2).toInt = (hi : Int) ∧ ES pg0 pg d pg' ∧ 0 ≤ z.toInt ∧ z.toInt + (d : Int) ≤ 3) ∨ (∃ v' b' mo' pg', post 200 b' mo' pg' ∧ P 1 v' ∧ VV m0 R W D t' v' ∧ mb N R W D v' ∧ RB b' (v'.2.2.1 0) ∧ XH v v' ∧ v'.1 13 = 200)
theorem EO_k {s1 : Tp} {post : Int32 → Bd → Mo → Pg → Prop} {pg0 : Pg} {m0 : Md} {N R W D : Int} {d : Nat} {t' : Tp} {hi : Nat} {P : Int32 → Md → Prop} {u v : Md} {pg pg1 : Pg} {c c1 : Int} (h : EO s1 post pg0 m0 N R W D d t' hi P v pg c) (hx : XH u v) (hc : c1 ≤ c) (hp : pg.1 0 = pg1.1 0) (ho : ∀ i : Nat, i < d → pg.2 5 i = pg1.2 5 i ∧ pg.2 6 i = pg1.2 6 i) : EO s1 post pg0 m0 N R W D d t' hi P u pg1 c1 := by
  rcases h with ⟨v', n', c', n99, pg', b', mo', z, k1, k2, k3, k4, k5, k6, k7, k8, k9, k10, k11⟩ | ⟨v', b', mo', pg', k1, k2, k3, k4, k5, k6, k7⟩
  · exact Or.inl ⟨v', n', c', n99, pg', b', mo', z, k1, k2, k3, k4, XH_tr hx k5, k6, ⟨by omega, k7.2⟩, k8, k9, ⟨k10.1, k10.2.1.trans hp, fun i hi => ⟨(k10.2.2 i hi).1.trans (ho i hi).1, (k10.2.2 i hi).2.trans (ho i hi).2⟩⟩, k11⟩
  · exact Or.inr ⟨v', b', mo', pg', k1, k2, k3, k4, k5, XH_tr hx k6, k7⟩
def MEX (s1 : Tp) (post : Int32 → Bd → Mo → Pg → Prop) (pg0 : Pg) (m0 : Md) (N R W D : Int) (d : Nat) (t : Tp) (lo : Nat) (t' : Tp) (hi : Nat) : Prop := ∀ (pg : Pg) (n : Nat) (b : Bd) (mo : Mo) (c : Int32) (La Lb : LTY) (Q P : Int32 → Md → Prop) (v : Md), d ≤ 3 → (d < 3 → Lb = GTL (LV (3 - d))) → (hi : Int) ≤ (pg0.1 1).toInt → AR5 pg0 pg → (pg.1 2).toInt = (lo : Int) → (pg.1 0).toInt = (d : Int) → ENC pg0 pg d hi → VV m0 R W D t v → mb N R W D v → (v.1 14).toInt = (d : Int) → v.1 13 = c → (0 ≤ c.toInt ∧ c.toInt ≤ 200) → RB b (v.2.2.1 0) → R9 s1 post n b mo pg c → GO (GT La Lb) Q v 1 → (∀ u, Q 1 u → ∃ m, PX (GO (GT La Lb)) P m u 1) → EO s1 post pg0 m0 N R W D d t' hi P v pg c.toInt
/-- all two hundred are done -/
theorem ex_200 {s1 : Tp} {post : Int32 → Bd → Mo → Pg → Prop} {pg0 : Pg} {m0 : Md} {N R W D : Int} {d : Nat} {t t' : Tp} {lo hi : Nat} {pg : Pg} {n : Nat} {b : Bd} {mo : Mo} {c : Int32} {La Lb : LTY} {Q P : Int32 → Md → Prop} {v : Md} (hp : PRS m0 R W D pg0 d t lo t' hi) (hd : d ≤ 3) (hL : d < 3 → Lb = GTL (LV (3 - d))) (hV : VV m0 R W D t v) (hM : mb N R W D v) (h14 : (v.1 14).toInt = (d : Int)) (h13 : v.1 13 = c) (hc : c.toInt = 200) (hB : RB b (v.2.2.1 0)) (h6 : R9 s1 post n b mo pg c) (h7 : GO (GT La Lb) Q v 1) (hQ : ∀ u, Q 1 u → ∃ m, PX (GO (GT La Lb)) P m u 1) : EO s1 post pg0 m0 N R W D d t' hi P v pg c.toInt := by
  have e200 : (200 : Int32).toInt = 200 := rfl
  have c2 : c = 200 := Int32.toInt_inj.mp (hc.trans e200.symm)
  obtain ⟨v', q1, q2, q3⟩ := prs_ro hp La Lb Q P v 1 hd hL hV h14 (Or.inr (h13.trans c2)) h7 hQ
  cases n with
  | zero => exact (show False from h6).elim
  | succ n =>
    unfold R9 wp_X6_doProgram_L9 at h6
    exact Or.inr ⟨v', b, mo, pg, h6.1 (Int32.le_iff_toInt_le.mpr (by omega)), q1, q2, mb_sm hM q3, by rw [q3.2]; exact hB, SM_xh q3, (q3.1 13 (by decide)).trans (h13.trans c2)⟩
/-- behind a step: on in the list, or at its end -/
theorem ex_next {s1 : Tp} {post : Int32 → Bd → Mo → Pg → Prop} {pg0 : Pg} {m0 : Md} {N R W D : Int} {d : Nat} {tA tB t' : Tp} {lo hi : Nat} {pg pgA : Pg} {n n99 m : Nat} {b : Bd} {mo : Mo} {c cA z : Int32} {La Lb : LTY} {P : Int32 → Md → Prop} {v vA : Md} (hs : (lo = hi ∧ NSP m0 R W D tA t') ∨ (SEP m0 R W D tA tB ∧ MEX s1 post pg0 m0 N R W D d tB lo t' hi ∧ lo < hi)) (hd : d ≤ 3) (hL : d < 3 → Lb = GTL (LV (3 - d))) (hh : (hi : Int) ≤ (pg0.1 1).toInt) (hes : ES pg0 pg d pgA) (hat : (pgA.1 2).toInt = (lo : Int)) (hd0 : (pg.1 0).toInt = (d : Int)) (enc : ENC pg0 pgA d hi) (hV : VV m0 R W D tA vA) (hM : mb N R W D vA) (h14 : (vA.1 14).toInt = (d : Int)) (h13 : vA.1 13 = cA) (hc : 0 ≤ c.toInt ∧ c.toInt < cA.toInt ∧ cA.toInt ≤ 200) (hB : RB b (vA.2.2.1 0)) (hx : XH v vA) (h6 : WL (fun u => R9 s1 post n b mo u cA) n99 pgA z) (hz : 0 ≤ z.toInt ∧ z.toInt + (d : Int) ≤ 3) (h7 : PX (GO (GT La Lb)) P m vA 1) : EO s1 post pg0 m0 N R W D d t' hi P v pg c.toInt := by
  have pd : (pgA.1 0).toInt = (d : Int) := by rw [hes.2.1]; exact hd0
  rcases hs with ⟨hr, ns⟩ | ⟨sp, mx, lt⟩
  · obtain ⟨v2, vv2, s2, h7⟩ := px_nsp ns hV h7
    exact Or.inl ⟨v2, n, cA, n99, pgA, b, mo, z, h7, vv2, mb_sm hM s2, by rw [s2.2]; exact hB, XH_tr hx (SM_xh s2), (s2.1 13 (by decide)).trans h13, hc.2, h6, by omega, hes, hz⟩
  · have h6 := wl_exit h6 hes.1 pd enc (Or.inr (by omega))
    obtain ⟨v2, m', vv2, s2, h7⟩ := px_sep sp hV h7
    have k := mx pgA n b mo cA La Lb _ P v2 hd hL hh hes.1 hat pd enc vv2 (mb_sm hM s2) (by rw [s2.1 14 (by decide)]; exact h14) ((s2.1 13 (by decide)).trans h13) (by omega) (by rw [s2.2]; exact hB) h6 h7 (fun u g => ⟨m', g.1 (by decide)⟩)
    exact EO_k k (XH_tr hx (SM_xh s2)) (by omega) hes.2.1 hes.2.2

/-! Basic steps, bodies, whole programs. -/
theorem go_else {K : Pg → Prop} {pg0 pg : Pg} {lo : Nat} (h5 : AR5 pg0 pg) (hat : (pg.1 2).toInt = (lo : Int)) (hl : (lo : Int) < (pg0.1 1).toInt) (hk : ¬ pg0.2 0 lo = 12) (h : wp_X4_goOn K pg) : ∃ n99, WL K n99 ((va_up pg.1 2 (pg0.2 4 lo)), pg.2) 0 := by
  have sz := congrArg Int32.toInt h5.1
  have el : (pg.1 2).toInt.toNat = lo := by omega
  unfold wp_X4_goOn at h
  have h := of_kind (by omega) (by omega) h
  rw [el, h5.2 0 (by decide)] at h
  have h := of_end (by omega) (by omega) (h.1 hk)
  rw [el, h5.2 4 (by decide)] at h
  exact h
theorem ex_bas {s1 : Tp} {post : Int32 → Bd → Mo → Pg → Prop} {pg0 : Pg} {m0 : Md} {N R W D : Int} {t t1 : Tp} {k a bb q : Int32} {lo : Nat} {pg : Pg} {n : Nat} {b : Bd} {mo : Mo} {c : Int32} {T : (Int32 → Md → Prop) → Md → Int32 → Prop} {Q : Int32 → Md → Prop} {v : Md} (hD : 0 < D) (hx : RX s1 m0) (bst : BST m0 R W D t k a bb q t1) (kb : KB m0 R W k a bb q) (hr : pg0.2 0 lo = k ∧ pg0.2 1 lo = a ∧ pg0.2 2 lo = bb ∧ pg0.2 3 lo = q) (hl : (lo : Int) < (pg0.1 1).toInt) (h5 : AR5 pg0 pg) (hat : (pg.1 2).toInt = (lo : Int)) (hV : VV m0 R W D t v) (hM : mb N R W D v) (h13 : v.1 13 = c) (hc : 0 ≤ c.toInt ∧ c.toInt < 200) (hB : RB b (v.2.2.1 0)) (h6 : R9 s1 post n b mo pg c) (h7 : GO T Q v 1) : ∃ n' bA moA n99 vA, Q 1 vA ∧ VV m0 R W D t1 vA ∧ mb N R W D vA ∧ RB bA (vA.2.2.1 0) ∧ XH v vA ∧ vA.1 13 = c + 1 ∧ WL (fun u => R9 s1 post n' bA moA u (c + 1)) n99 ((va_up pg.1 2 (pg0.2 4 lo)), pg.2) 0 := by
  have e200 : (200 : Int32).toInt = 200 := rfl
  have sz := congrArg Int32.toInt h5.1
  have el : (pg.1 2).toInt.toNat = lo := by omega
  cases n with
  | zero => exact (show False from h6).elim
  | succ n =>
    unfold R9 wp_X6_doProgram_L9 at h6
    have h6 := of_has (by omega) (by omega) (h6.2 (fun g => by have := q_le g; omega))
    have h6 := h6.1 (by decide)
    obtain ⟨_, _, v1, vv1, s1', h7⟩ := bst v T Q 1 hV h7
    unfold wp_X7_isDone at h7
    have c13 : v1.1 13 = c := (s1'.1 13 (by decide)).trans h13
    have h7 := ((h7.2 (by decide)).1 (fun g => by
      have := congrArg Int32.toInt (c13.symm.trans g)
      omega)).2 (by decide)
    obtain ⟨u, hu⟩ : ∃ w : Md, w = ((va_up v1.1 13 ((v1.1 13) + 1)), v1.2.1, v1.2.2.1, v1.2.2.2) := ⟨_, rfl⟩
    rw [← hu] at h7
    have mu : mb N R W D u := by
      rw [hu]
      exact mb_k (mb_sm hM s1') rfl rfl rfl
    have vvu : VV m0 R W D t1 u := by
      rw [hu]
      exact vv1
    have e2 : u.2 = v.2 := by rw [hu]; exact s1'.2
    have xu : XH v u := by
      have q := SM_xh s1'
      rw [hu]
      exact q
    obtain ⟨bA, moA, vA, h6, h7, g3, g4, g5⟩ := sm_do hD hx kb ⟨⟨by omega, by omega⟩, by rw [el, h5.2 0 (by decide)]; exact hr.1, by rw [el, h5.2 1 (by decide)]; exact hr.2.1, by rw [el, h5.2 2 (by decide)]; exact hr.2.2.1, by rw [el, h5.2 3 (by decide)]; exact hr.2.2.2⟩ (by rw [e2]; exact hB) mu vvu.2.2.2 h6 h7
    have hk12 : ¬ pg0.2 0 lo = 12 := by
      rw [hr.1]
      rcases kb.1 with g | g | g | g | g | g <;> rw [g] <;> decide
    obtain ⟨n99, h6⟩ := go_else h5 hat hl hk12 h6
    refine ⟨n, bA, moA, n99, vA, h7.2, VV_xg vvu g4 g5, g4, g3, XH_tr xu (XG_xh g5), ?_, h6⟩
    rw [g5.1 13 (by decide), hu]
    show v1.1 13 + 1 = _
    rw [c13]
theorem do_tms {P6 : Bd → Mo → Prop} {s1 : Tp} {b : Bd} {mo : Mo} {pg : Pg} {x : Int32} (h0 : 0 ≤ x.toInt) (h1 : x.toInt < (pg.1 1).toInt) (hk : pg.2 0 x.toInt.toNat = 12) (h6 : wp_X6_doStep P6 s1 b mo pg x) : P6 b mo := by
  unfold wp_X6_doStep at h6
  have h6 := of_kind h0 h1 (of_two h0 h1 (of_one h0 h1 h6))
  rw [hk] at h6
  exact (((((h6.2 (by decide)).2 (by decide)).2 (by decide)).2 (by decide)).2 (by decide)).2 (by decide)
theorem et_out {m0 : Md} {R W D : Int} {t2 t3 : Tp} {Q : Int32 → Md → Prop} {v : Md} {a b c d e : Int32} (cl : CLS m0 R W D t2 t3) (hV : VV m0 R W D t2 v) (h : ET (WP Q) v a b c d e) : ∃ vX, Q 1 (outB vX) ∧ VV m0 R W D t3 vX ∧ SM v vX := by
  unfold ET at h
  obtain ⟨vX, h, a, b⟩ := cl v hV _ h
  exact ⟨vX, (h.1 (by decide)).2, a, b⟩
theorem VV_bk {m0 : Md} {N R W D : Int} {t : Tp} {v w : Md} {z : Int32} (h : VV m0 R W D t v) (hM : mb N R W D w) (h5 : w.1 5 = v.1 5) (h2 : w.2.2.2 2 = v.2.2.2 2) (hz : z = v.1 6) : VV m0 R W D t ((va_up w.1 6 z), w.2.1, w.2.2.1, w.2.2.2) := by
  obtain ⟨⟨⟨a1, a2, a3, a4, a5⟩, b1, b2, b3, b4⟩, c1, c2, c3⟩ := h
  subst hz
  refine ⟨⟨⟨?_, ?_, ?_, ?_, ?_⟩, b1, b2, ?_, b4⟩, hM.2.2.2.2.1, ?_, ?_⟩
  · show t.1 0 = w.1 5
    rw [h5]; exact a1
  · show t.2 = (fun k => w.2.2.2 2 k &&& 255)
    rw [h2]; exact a2
  · show 0 ≤ (w.1 5).toInt
    rw [h5]; exact a3
  · show (w.1 5).toInt ≤ 400
    rw [h5]; exact a4
  · show ∀ k, -128 ≤ (w.2.2.2 2 k).toInt ∧ (w.2.2.2 2 k).toInt ≤ 127
    rw [h2]; exact a5
  · show (v.1 6).toInt ≤ (w.1 5).toInt
    rw [h5]; exact b3
  · show w.1 5 = _
    rw [h5]; exact c2
  · show w.2.2.2 2 = _
    rw [h2]; exact c3
/-- what is left of times, read but not done -/
theorem ro_iter {m0 : Md} {N R W D : Int} {d : Nat} {t1 t2 t3 : Tp} {Q : Int32 → Md → Prop} {nn z3 z4 : Int32} {v0 : Md} (d3 : d < 3) (ih : MRO m0 R W D (d + 1) t1 t2) (cl : CLS m0 R W D t2 t3) (nb : nn.toInt ≤ 20) (hV0 : VV m0 R W D t1 v0) (hz4 : z4 = v0.1 6) : ∀ (n90 : Nat) (v : Md) (z5 : Int32), 1 ≤ z5.toInt → VV m0 R W D t2 v → mb N R W D v → v.1 13 = 200 → (v.1 14).toInt = (d : Int) + 1 → GTL (LV (3 - d)) (WP Q) (ET (WP Q)) n90 v 1 nn z3 z4 z5 → ∃ vX, Q 1 (outB vX) ∧ VV m0 R W D t3 vX ∧ SM v vX := by
  have e1 : (1 : Int32).toInt = 1 := rfl
  have e0 : (0 : Int32).toInt = 0 := rfl
  intro n90
  induction n90 with
  | zero =>
    intro v z5 _ _ _ _ _ h
    exact (show False from h).elim
  | succ n90 ihn =>
    intro v z5 h1 hV hM h13 h14 h
    unfold GTL at h
    have h := h.2 (fun g => by have := congrArg Int32.toInt g; omega)
    by_cases c : nn ≤ z5
    · exact et_out cl hV (h.1 c)
    · have := q_nle c
      have s5 := nw (tq_addr e1 z5) (by omega)
      by_cases c3 : z3 = 0
      · exact et_out cl hV ((h.2 c).1 c3)
      · have h := (((h.2 c).2 c3).2 c3).2 c
        have vk := VV_bk (z := z4) hV0 hM (hV.2.2.1.trans hV0.2.2.1.symm) (hV.2.2.2.trans hV0.2.2.2.symm) hz4
        obtain ⟨v', h, vv, s⟩ := ro_body d3 ih vk h14 (Or.inr h13) h
        have s' : SM v v' := SM_tr (SM_up v (by decide)) s
        obtain ⟨vX, q1, q2, q3⟩ := ihn v' (z5 + 1) (by omega) vv (mb_sm hM s') ((s'.1 13 (by decide)).trans h13) (by rw [s'.1 14 (by decide)]; exact h14) (h.1 (by decide))
        exact ⟨vX, q1, q2, SM_tr s' q3⟩
def IO (s1 : Tp) (post : Int32 → Bd → Mo → Pg → Prop) (pg0 : Pg) (m0 : Md) (N R W D : Int) (d : Nat) (t3 : Tp) (e : Nat) (Q : Int32 → Md → Prop) (v : Md) (pgO : Pg) (c : Int) : Prop := (∃ vX n' c' n99 pg' b' mo' z, Q 1 (outB vX) ∧ VV m0 R W D t3 vX ∧ mb N R W D vX ∧ RB b' (vX.2.2.1 0) ∧ XH v vX ∧ vX.1 13 = c' ∧ (c < c'.toInt ∧ c'.toInt ≤ 200) ∧ WL (fun u => R9 s1 post n' b' mo' u c') n99 pg' z ∧ (pg'.1 2).toInt = (e : Int) ∧ ES pg0 pgO d pg' ∧ 0 ≤ z.toInt ∧ z.toInt + (d : Int) ≤ 3) ∨ (∃ vX b' mo' pg', post 200 b' mo' pg' ∧ Q 1 (outB vX) ∧ VV m0 R W D t3 vX ∧ mb N R W D vX ∧ RB b' (vX.2.2.1 0) ∧ XH v vX ∧ vX.1 13 = 200)
theorem ex_iter {s1 : Tp} {post : Int32 → Bd → Mo → Pg → Prop} {pg0 pgO : Pg} {m0 : Md} {N R W D : Int} {d lo e : Nat} {t1 t2 t3 : Tp} {Q : Int32 → Md → Prop} {nn z4 : Int32} {v0 : Md} (d3 : d < 3) (mx : MEX s1 post pg0 m0 N R W D (d + 1) t1 (lo + 1) t2 e) (pb : PRS m0 R W D pg0 (d + 1) t1 (lo + 1) t2 e) (cl : CLS m0 R W D t2 t3) (he : lo + 1 < e ∧ (e : Int) ≤ (pg0.1 1).toInt) (hsz : (pg0.1 1).toInt ≤ 80) (hen : (pg0.2 4 lo).toInt = (e : Int)) (nb : 1 ≤ nn.toInt ∧ nn.toInt ≤ 20) (hV0 : VV m0 R W D t1 v0) (hz4 : z4 = v0.1 6) (hO : (pgO.1 0).toInt = (d : Int)) : ∀ (j : Nat) (i : Int32) (n n90 : Nat) (b : Bd) (mo : Mo) (pg : Pg) (c : Int32) (v : Md), i.toInt + 1 + (j : Int) = nn.toInt → 0 ≤ i.toInt → AR5 pg0 pg → (pg.1 2).toInt = (lo : Int) + 1 → pg.1 0 = pgO.1 0 + 1 → (pg.2 5 d).toInt = (lo : Int) → (pg.2 6 d).toInt = (j : Int) → (∀ k : Nat, k < d → pg.2 5 k = pgO.2 5 k ∧ pg.2 6 k = pgO.2 6 k) → VV m0 R W D t1 v → mb N R W D v → (v.1 14).toInt = (d : Int) + 1 → v.1 13 = c → (0 ≤ c.toInt ∧ c.toInt ≤ 200) → RB b (v.2.2.1 0) → R9 s1 post n b mo pg c → LV (3 - d) (fun r u => ((¬ r = 0 → GTL (LV (3 - d)) (WP Q) (ET (WP Q)) n90 u 1 nn 1 z4 (i + 1)) ∧ (r = 0 → WP Q 0 u))) v 1 → IO s1 post pg0 m0 N R W D d t3 e Q v pgO c.toInt := by
  have e1 : (1 : Int32).toInt = 1 := rfl
  have e0 : (0 : Int32).toInt = 0 := rfl
  have od := nw (tq_addr e1 (pgO.1 0)) (by omega)
  intro j
  induction j with
  | zero =>
    intro i n n90 b mo pg c v hi hi0 h5 hat hdp ho ha hk hV hM h14 h13 hc hB h6 h7
    have si := nw (tq_addr e1 i) (by omega)
    have hpd := congrArg Int32.toInt hdp
    obtain ⟨La', Lb', eL, hL'⟩ := LV_e (k := 3 - d) (by omega) (by omega)
    have h7 := cast (congrFun (congrFun (congrFun eL _) v) 1) h7
    unfold GA at h7
    have enc : ENC pg0 pg (d + 1) e := Or.inr ⟨by omega, by omega, lo, ho, by omega, hen⟩
    have k := mx pg n b mo c La' Lb' _ _ v (by omega) (fun g => by rw [hL' (by omega)]; congr 1) he.2 h5 hat (by omega) enc hV hM h14 h13 hc hB h6 h7 (fun u g => g.1 (by decide))
    rcases k with ⟨v', n', c', n99, pg', b', mo', z, k1, k2, k3, k4, k5, k6, k7, k8, k9, k10, k11, k12⟩ | ⟨v', b', mo', pg', k1, k2, k3, k4, k5, k6, k7⟩
    · have h7 := k1.1 (by decide)
      have o' := k10.2.2 d (by omega)
      have pd' : (pg'.1 0).toInt = ((d + 1 : Nat) : Int) := by rw [k10.2.1]; omega
      have enc' : ENC pg0 pg' (d + 1) e := Or.inr ⟨by omega, by omega, lo, (by show (pg'.2 5 d).toInt = _; rw [o'.1]; exact ho), by omega, hen⟩
      have sz := nw (tq_addr e1 z) (by omega)
      rcases wl_end k8 k10.1 pd' enc' (by omega) k9 (by omega) with ⟨g1, n99', g2⟩ | ⟨g1, _⟩
      · cases n90 with
        | zero => exact (show False from h7).elim
        | succ n90 =>
          unfold GTL at h7
          have h7 := (h7.2 (fun g => by have := congrArg Int32.toInt g; omega)).1 (Int32.le_iff_toInt_le.mpr (by omega))
          obtain ⟨vX, q1, q2, q3⟩ := et_out cl k2 h7
          refine Or.inl ⟨vX, n', c', n99', _, b', mo', z + 1, q1, q2, mb_sm k3 q3, by rw [q3.2]; exact k4, XH_tr k5 (SM_xh q3), (q3.1 13 (by decide)).trans k6, k7, g2, k9, ⟨k10.1, ?_, fun i hi => ?_⟩, by omega, by omega⟩
          · show pg'.1 0 - 1 = _
            rw [k10.2.1, hdp]
            exact ad_sb _
          · have q := k10.2.2 i (by omega)
            exact ⟨q.1.trans (hk i hi).1, q.2.trans (hk i hi).2⟩
      · exfalso
        have g1 : ¬ pg'.2 6 d ≤ 0 := g1
        rw [o'.2] at g1
        exact g1 (Int32.le_iff_toInt_le.mpr (by omega))
    · have h7 := k2.1 (by decide)
      obtain ⟨vX, q1, q2, q3⟩ := ro_iter (N := N) d3 (prs_ro pb) cl (by omega) hV0 hz4 n90 v' (i + 1) (by omega) k3 k4 k7 (by rw [k6.1.2.2]; exact h14) h7
      exact Or.inr ⟨vX, b', mo', pg', k1, q1, q2, mb_sm k4 q3, by rw [q3.2]; exact k5, XH_tr k6 (SM_xh q3), (q3.1 13 (by decide)).trans k7⟩
  | succ j ih =>
    intro i n n90 b mo pg c v hi hi0 h5 hat hdp ho ha hk hV hM h14 h13 hc hB h6 h7
    have si := nw (tq_addr e1 i) (by omega)
    have hpd := congrArg Int32.toInt hdp
    obtain ⟨La', Lb', eL, hL'⟩ := LV_e (k := 3 - d) (by omega) (by omega)
    have h7 := cast (congrFun (congrFun (congrFun eL _) v) 1) h7
    unfold GA at h7
    have enc : ENC pg0 pg (d + 1) e := Or.inr ⟨by omega, by omega, lo, ho, by omega, hen⟩
    have k := mx pg n b mo c La' Lb' _ _ v (by omega) (fun g => by rw [hL' (by omega)]; congr 1) he.2 h5 hat (by omega) enc hV hM h14 h13 hc hB h6 h7 (fun u g => g.1 (by decide))
    rcases k with ⟨v', n', c', n99, pg', b', mo', z, k1, k2, k3, k4, k5, k6, k7, k8, k9, k10, k11, k12⟩ | ⟨v', b', mo', pg', k1, k2, k3, k4, k5, k6, k7⟩
    · have h7 := k1.1 (by decide)
      have o' := k10.2.2 d (by omega)
      have pd' : (pg'.1 0).toInt = ((d + 1 : Nat) : Int) := by rw [k10.2.1]; omega
      have enc' : ENC pg0 pg' (d + 1) e := Or.inr ⟨by omega, by omega, lo, (by show (pg'.2 5 d).toInt = _; rw [o'.1]; exact ho), by omega, hen⟩
      have sz := nw (tq_addr e1 z) (by omega)
      have o5 : (pg'.2 5 d).toInt = (lo : Int) := by rw [o'.1]; exact ho
      have o6 : (pg'.2 6 d).toInt = (j : Int) + 1 := by rw [o'.2, ha]; omega
      rcases wl_end k8 k10.1 pd' enc' (by omega) k9 (by omega) with ⟨g1, _⟩ | ⟨g1, n99', g2⟩
      · exfalso
        have g1 : pg'.2 6 d ≤ 0 := g1
        have := q_le g1
        omega
      · have s5 := nw (tq_addr e1 (pg'.2 5 d)) (by omega)
        have s6 := nw (tq_subr e1 (pg'.2 6 d)) (by omega)
        have g2 : WL (fun u => R9 s1 post n' b' mo' u c') n99' ((va_up pg'.1 2 ((pg'.2 5 d) + 1)), (va_up pg'.2 6 (upd (pg'.2 6) d ((pg'.2 6 d) - 1)))) (z + 1) := g2
        have h5' : AR5 pg0 ((va_up pg'.1 2 ((pg'.2 5 d) + 1)), (va_up pg'.2 6 (upd (pg'.2 6) d ((pg'.2 6 d) - 1)))) := ⟨k10.1.1, fun j hj => (va_n (by omega)).trans (k10.1.2 j hj)⟩
        have h6 := wl_exit (d := d + 1) (hi := e) g2 h5' pd' (Or.inr ⟨by omega, by omega, lo, o5, by omega, hen⟩) (Or.inr (by
          show ¬ (pg'.2 5 d + 1).toInt = _
          omega))
        cases n90 with
        | zero => exact (show False from h7).elim
        | succ n90 =>
          unfold GTL at h7
          have nc : ¬ nn ≤ i + 1 := fun g => by have := q_le g; omega
          have h7 := ((((h7.2 (fun g => by have := congrArg Int32.toInt g; omega)).2 nc).2 (by decide)).2 (by decide)).2 nc
          have vk := VV_bk (z := z4) hV0 k3 (k2.2.2.1.trans hV0.2.2.1.symm) (k2.2.2.2.trans hV0.2.2.2.symm) hz4
          have k := ih (i + 1) n' n90 b' mo' _ c' ((va_up v'.1 6 z4), v'.2.1, v'.2.2.1, v'.2.2.2) (by omega) (by omega) h5' (by show (pg'.2 5 d + 1).toInt = _; omega) (k10.2.1.trans hdp) o5 (by show (upd (pg'.2 6) d (pg'.2 6 d - 1) d).toInt = _; rw [up_e]; omega) (fun i hi => by
            have q := k10.2.2 i (by omega)
            refine ⟨q.1.trans (hk i hi).1, ?_⟩
            show upd (pg'.2 6) d _ i = _
            rw [up_n (by omega)]
            exact q.2.trans (hk i hi).2) vk (mb_k k3 rfl rfl rfl) (by show (v'.1 14).toInt = _; rw [k5.1.2.2]; exact h14) k6 (by omega) k4 h6 h7
          have xk : XH v ((va_up v'.1 6 z4), v'.2.1, v'.2.2.1, v'.2.2.2) := XH_tr k5 (SM_xh (SM_up v' (by decide)))
          rcases k with ⟨vX, a1, a2, a3, a4, a5, a6, a7, k1, k2, k3, k4, k5, k6, k7', k8⟩ | ⟨vX, b', mo', pg', k1, k2, k3, k4, k5, k6, k7⟩
          · exact Or.inl ⟨vX, a1, a2, a3, a4, a5, a6, a7, k1, k2, k3, k4, XH_tr xk k5, k6, ⟨by omega, k7'.2⟩, k8⟩
          · exact Or.inr ⟨vX, b', mo', pg', k1, k2, k3, k4, k5, XH_tr xk k6, k7⟩
    · have h7 := k2.1 (by decide)
      obtain ⟨vX, q1, q2, q3⟩ := ro_iter (N := N) d3 (prs_ro pb) cl (by omega) hV0 hz4 n90 v' (i + 1) (by omega) k3 k4 k7 (by rw [k6.1.2.2]; exact h14) h7
      exact Or.inr ⟨vX, b', mo', pg', k1, q1, q2, mb_sm k4 q3, by rw [q3.2]; exact k5, XH_tr k6 (SM_xh q3), (q3.1 13 (by decide)).trans k7⟩

/-! Times, lists, whole programs done. -/
def TO (s1 : Tp) (post : Int32 → Bd → Mo → Pg → Prop) (pg0 : Pg) (m0 : Md) (N R W D : Int) (d : Nat) (t3 : Tp) (e : Nat) (Q : Int32 → Md → Prop) (v : Md) (pg : Pg) (c : Int) : Prop := (∃ vA n' cA n99 pgA bA moA z, Q 1 vA ∧ VV m0 R W D t3 vA ∧ mb N R W D vA ∧ RB bA (vA.2.2.1 0) ∧ XH v vA ∧ vA.1 13 = cA ∧ (c < cA.toInt ∧ cA.toInt ≤ 200) ∧ WL (fun u => R9 s1 post n' bA moA u cA) n99 pgA z ∧ (pgA.1 2).toInt = (e : Int) ∧ ES pg0 pg d pgA ∧ 0 ≤ z.toInt ∧ z.toInt + (d : Int) ≤ 3) ∨ (∃ vA b' mo' pg', post 200 b' mo' pg' ∧ Q 1 vA ∧ VV m0 R W D t3 vA ∧ mb N R W D vA ∧ RB b' (vA.2.2.1 0) ∧ XH v vA ∧ vA.1 13 = 200)
theorem XH_out {v u vX : Md} (hu : XH v u) (h : XH (inB u) vX) : XH v (outB vX) := by
  obtain ⟨⟨a1, a2, a3⟩, a4, a5, a6⟩ := hu
  obtain ⟨⟨b1, b2, b3⟩, b4, b5, b6⟩ := h
  refine ⟨⟨b1.trans a1, b2.trans a2, ?_⟩, fun k hk => (b4 k hk).trans (a4 k hk), b5.trans a5, b6.trans a6⟩
  show vX.1 14 - 1 = _
  rw [b3]
  show u.1 14 + 1 - 1 = _
  rw [ad_sb, a3]
theorem ex_tms {s1 : Tp} {post : Int32 → Bd → Mo → Pg → Prop} {pg0 : Pg} {m0 : Md} {N R W D : Int} {d lo e : Nat} {t t1 t2 t3 : Tp} {nn : Int32} {pg : Pg} {n : Nat} {b : Bd} {mo : Mo} {c : Int32} {La Lb : LTY} {Q : Int32 → Md → Prop} {v : Md} (d3 : d < 3) (hL : d < 3 → Lb = GTL (LV (3 - d))) (tst : TST m0 R W D d t nn t1) (nb : 0 ≤ nn.toInt ∧ nn.toInt ≤ 20) (pb : PRS m0 R W D pg0 (d + 1) t1 (lo + 1) t2 e) (mx : MEX s1 post pg0 m0 N R W D (d + 1) t1 (lo + 1) t2 e) (cl : CLS m0 R W D t2 t3) (hk : pg0.2 0 lo = 12 ∧ pg0.2 1 lo = nn) (hen : (pg0.2 4 lo).toInt = (e : Int)) (he : lo + 1 < e ∧ (e : Int) ≤ (pg0.1 1).toInt) (hsz : (pg0.1 1).toInt ≤ 80) (h5 : AR5 pg0 pg) (hat : (pg.1 2).toInt = (lo : Int)) (hd0 : (pg.1 0).toInt = (d : Int)) (hV : VV m0 R W D t v) (hM : mb N R W D v) (h14 : (v.1 14).toInt = (d : Int)) (h13 : v.1 13 = c) (hc : 0 ≤ c.toInt ∧ c.toInt < 200) (hB : RB b (v.2.2.1 0)) (h6 : R9 s1 post n b mo pg c) (h7 : GO (GT La Lb) Q v 1) : TO s1 post pg0 m0 N R W D d t3 e Q v pg c.toInt := by
  have e200 : (200 : Int32).toInt = 200 := rfl
  have e1 : (1 : Int32).toInt = 1 := rfl
  have e0 : (0 : Int32).toInt = 0 := rfl
  have e3 : (3 : Int32).toInt = 3 := rfl
  have sz := congrArg Int32.toInt h5.1
  have el : (pg.1 2).toInt.toNat = lo := by omega
  have sc := nw (tq_addr e1 c) (by omega)
  cases n with
  | zero => exact (show False from h6).elim
  | succ n =>
    unfold R9 wp_X6_doProgram_L9 at h6
    have h6 := of_has (by omega) (by omega) (h6.2 (fun g => by have := q_le g; omega))
    have h6 := do_tms (by omega) (by omega) (by rw [el, h5.2 0 (by decide)]; exact hk.1) (h6.1 (by decide))
    unfold wp_X4_goOn at h6
    have h6 := of_kind (by omega) (by omega) h6
    rw [el, h5.2 0 (by decide)] at h6
    have h6 := of_one (by omega) (by omega) (h6.2 hk.1)
    rw [el, h5.2 1 (by decide), hk.2] at h6
    obtain ⟨v1, vv1, s1', h7⟩ := tst v La Lb Q 1 hV h14 h7
    unfold wp_X7_isDone at h7
    have c13 : v1.1 13 = c := (s1'.1 13 (by decide)).trans h13
    have h7 := (h7.2 (by decide)).1 (fun g => by
      have := congrArg Int32.toInt (c13.symm.trans g)
      omega)
    obtain ⟨u, hu⟩ : ∃ w : Md, w = ((va_up v1.1 13 ((v1.1 13) + 1)), v1.2.1, v1.2.2.1, v1.2.2.2) := ⟨_, rfl⟩
    rw [← hu] at h7
    have mu : mb N R W D u := by
      rw [hu]
      exact mb_k (mb_sm hM s1') rfl rfl rfl
    have vvu : VV m0 R W D t1 u := by
      rw [hu]
      exact vv1
    have e2 : u.2 = v.2 := by rw [hu]; exact s1'.2
    have xu : XH v u := by
      have q := SM_xh s1'
      rw [hu]
      exact q
    have u13 : u.1 13 = c + 1 := by
      rw [hu]
      show v1.1 13 + 1 = _
      rw [c13]
    have u14 := congrArg Int32.toInt xu.1.2.2
    have su14 := nw (tq_addr e1 (u.1 14)) (by omega)
    obtain ⟨n90, h7⟩ := h7
    rw [hL d3] at h7
    have vvS : VV m0 R W D t1 (inB u) := vvu
    have mS : mb N R W D (inB u) := mb_k mu rfl rfl rfl
    have i14 : ((inB u).1 14).toInt = (d : Int) + 1 := by
      show (u.1 14 + 1).toInt = _
      omega
    have bS : RB b ((inB u).2.2.1 0) := by
      show RB b (u.2.2.1 0)
      rw [e2]
      exact hB
    cases n90 with
    | zero => exact (show False from h7).elim
    | succ n90 =>
      unfold GTL at h7
      have h7 := (h7.1 rfl).2 (by decide)
      by_cases c0 : nn ≤ 0
      · have := q_le c0
        have h6 := of_end (by omega) (by omega) (h6.1 c0)
        rw [el, h5.2 4 (by decide)] at h6
        obtain ⟨n99, h6⟩ := h6
        rw [wl_b] at h6
        have h7 : LV (3 - d) _ (inB u) 0 := h7.1 c0
        obtain ⟨v2, h7, vv2, s2⟩ := ro_body d3 (prs_ro pb) vvS i14 (Or.inl rfl) h7
        have h7 := h7.1 (by decide)
        cases n90 with
        | zero => exact (show False from h7).elim
        | succ n90 =>
          unfold GTL at h7
          have h7 := (h7.2 (by decide)).1 (Int32.le_iff_toInt_le.mpr (by
            have : (0 + 1 : Int32).toInt = 1 := rfl
            omega))
          obtain ⟨vX, q1, q2, q3⟩ := et_out cl vv2 h7
          have sX := SM_tr s2 q3
          refine Or.inl ⟨outB vX, n, c + 1, n99, _, b, mo, 0, q1, q2, mb_k (mb_sm mS sX) rfl rfl rfl, ?_, XH_out xu (SM_xh sX), ?_, ⟨by omega, by omega⟩, h6, hen, ⟨h5, rfl, fun _ _ => ⟨rfl, rfl⟩⟩, by decide, by rw [e0]; omega⟩
          · show RB b (vX.2.2.1 0)
            rw [sX.2]
            exact bS
          · show vX.1 13 = _
            rw [sX.1 13 (by decide)]
            exact u13
      · have := q_nle c0
        have h6 := ((h6.2 c0).2 (fun g => by have := q_le g; omega)).2
        have h6 := (of_one (by show 0 ≤ (pg.1 2).toInt; omega) (by show (pg.1 2).toInt < (pg.1 1).toInt; omega) h6).2
        have h7 : LV (3 - d) _ (inB u) 1 := h7.2 c0
        have ed : Int32.toNatClampNeg (pg.1 0) = d := by
          rw [tn_i]
          omega
        rw [ed] at h6
        have o1 : ((pg.1, (va_up pg.2 5 (upd (pg.2 5) d (pg.1 2)))) : Pg).2 1 (pg.1 2).toInt.toNat = nn := by
          show pg.2 1 (pg.1 2).toInt.toNat = nn
          rw [el, h5.2 1 (by decide), hk.2]
        rw [o1] at h6
        have sn := nw (tq_subr e1 nn) (by omega)
        have sa := nw (tq_addr e1 (pg.1 2)) (by omega)
        have k := ex_iter (pgO := pg) (z4 := u.1 6) (v0 := inB u) d3 mx pb cl he hsz hen ⟨by omega, by omega⟩ vvS rfl hd0 (nn.toInt.toNat - 1) 0 n n90 b mo ((va_up (va_up pg.1 0 ((pg.1 0) + 1)) 2 ((pg.1 2) + 1)), (va_up (va_up pg.2 5 (upd (pg.2 5) d (pg.1 2))) 6 (upd (pg.2 6) d (nn - 1)))) (c + 1) (inB u) (by rw [e0]; omega) (by decide) ⟨h5.1, fun j hj => (va_n (by omega)).trans ((va_n (by omega)).trans (h5.2 j hj))⟩ (by show (pg.1 2 + 1).toInt = _; omega) rfl (by show (upd (pg.2 5) d (pg.1 2) d).toInt = _; rw [up_e]; exact hat) (by show (upd (pg.2 6) d (nn - 1) d).toInt = _; rw [up_e]; omega) (fun k hk => ⟨(by show upd (pg.2 5) d _ k = _; rw [up_n (by omega)]), (by show upd (pg.2 6) d _ k = _; rw [up_n (by omega)])⟩) vvS mS i14 u13 (by omega) bS h6 h7
        rcases k with ⟨vX, n', c', n99, pg', b', mo', z, k1, k2, k3, k4, k5, k6, k7, k8⟩ | ⟨vX, b', mo', pg', k1, k2, k3, k4, k5, k6, k7⟩
        · exact Or.inl ⟨outB vX, n', c', n99, pg', b', mo', z, k1, k2, mb_k k3 rfl rfl rfl, k4, XH_out xu k5, k6, ⟨by omega, k7.2⟩, k8⟩
        · exact Or.inr ⟨outB vX, b', mo', pg', k1, k2, k3, mb_k k4 rfl rfl rfl, k5, XH_out xu k6, k7⟩
theorem ENC_es {pg0 pg pgA : Pg} {d hi : Nat} (h : ENC pg0 pg d hi) (e : ES pg0 pg d pgA) : ENC pg0 pgA d hi := by
  rcases h with h | ⟨h1, h2, o, o1, o2, o3⟩
  · exact Or.inl h
  · exact Or.inr ⟨h1, h2, o, by rw [(e.2.2 (d - 1) (by omega)).1]; exact o1, o2, o3⟩
theorem prs_ex {s1 : Tp} {post : Int32 → Bd → Mo → Pg → Prop} {pg0 : Pg} {m0 : Md} {N R W D : Int} (hD : 0 < D) (hx : RX s1 m0) (hsz : (pg0.1 1).toInt ≤ 80) {d : Nat} {t t' : Tp} {lo hi : Nat} (h : PRS m0 R W D pg0 d t lo t' hi) : MEX s1 post pg0 m0 N R W D d t lo t' hi := by
  have e1 : (1 : Int32).toInt = 1 := rfl
  have e0 : (0 : Int32).toInt = 0 := rfl
  refine PRS_ind (M := MEX s1 post pg0 m0 N R W D) (fun d t t1 t2 k a bb q lo bst kb ns af => ?_) (fun d t t1 t2 t3 k a bb q lo hi bst kb sp af pr ih => ?_) (fun d t t1 t2 t3 t4 nn lo e tst d3 nb at_ pb ihb cl ns => ?_) (fun d t t1 t2 t3 t4 t5 nn lo e hi tst d3 nb at_ pb ihb cl sp pr ih => ?_) h
  · intro pg n b mo c La Lb Q P v hd hL hh h5 hat hd0 enc hV hM h14 h13 hc hB h6 h7 hQ
    by_cases c2 : c.toInt = 200
    · exact ex_200 (PRS_b1 bst kb ns af) hd hL hV hM h14 h13 c2 hB h6 h7 hQ
    · have sc := nw (tq_addr e1 c) (by omega)
      obtain ⟨n', bA, moA, n99, vA, k1, k2, k3, k4, k5, k6, k7⟩ := ex_bas hD hx bst kb ⟨af.1, af.2.1, af.2.2.1, af.2.2.2.1⟩ (by omega) h5 hat hV hM h13 (by omega) hB h6 h7
      obtain ⟨m, h7⟩ := hQ _ k1
      exact ex_next (tB := s1) (pgA := ((va_up pg.1 2 (pg0.2 4 lo)), pg.2)) (z := 0) (Or.inl ⟨rfl, ns⟩) hd hL hh ⟨h5, rfl, fun _ _ => ⟨rfl, rfl⟩⟩ af.2.2.2.2 hd0 (ENC_es enc ⟨h5, rfl, fun _ _ => ⟨rfl, rfl⟩⟩) k2 k3 (by rw [k5.1.2.2]; exact h14) k6 (by omega) k4 k5 k7 ⟨by decide, by rw [e0]; omega⟩ h7
  · intro pg n b mo c La Lb Q P v hd hL hh h5 hat hd0 enc hV hM h14 h13 hc hB h6 h7 hQ
    by_cases c2 : c.toInt = 200
    · exact ex_200 (PRS_bc bst kb sp af pr) hd hL hV hM h14 h13 c2 hB h6 h7 hQ
    · have lt := PRS_lt pr
      have sc := nw (tq_addr e1 c) (by omega)
      obtain ⟨n', bA, moA, n99, vA, k1, k2, k3, k4, k5, k6, k7⟩ := ex_bas hD hx bst kb ⟨af.1, af.2.1, af.2.2.1, af.2.2.2.1⟩ (by omega) h5 hat hV hM h13 (by omega) hB h6 h7
      obtain ⟨m, h7⟩ := hQ _ k1
      exact ex_next (pgA := ((va_up pg.1 2 (pg0.2 4 lo)), pg.2)) (z := 0) (Or.inr ⟨sp, ih, lt⟩) hd hL hh ⟨h5, rfl, fun _ _ => ⟨rfl, rfl⟩⟩ af.2.2.2.2 hd0 (ENC_es enc ⟨h5, rfl, fun _ _ => ⟨rfl, rfl⟩⟩) k2 k3 (by rw [k5.1.2.2]; exact h14) k6 (by omega) k4 k5 k7 ⟨by decide, by rw [e0]; omega⟩ h7
  · intro pg n b mo c La Lb Q P v hd hL hh h5 hat hd0 enc hV hM h14 h13 hc hB h6 h7 hQ
    by_cases c2 : c.toInt = 200
    · exact ex_200 (PRS_t1 tst d3 nb at_ pb cl ns) hd hL hV hM h14 h13 c2 hB h6 h7 hQ
    · rcases ex_tms d3 hL tst nb pb ihb cl at_.1 at_.2.1 ⟨at_.2.2, hh⟩ hsz h5 hat hd0 hV hM h14 h13 (by omega) hB h6 h7 with ⟨vA, n', cA, n99, pgA, bA, moA, z, k1, k2, k3, k4, k5, k6, k7, k8, k9, k10, k11⟩ | ⟨vA, b', mo', pg', k1, k2, k3, k4, k5, k6, k7⟩
      · obtain ⟨m, h7⟩ := hQ _ k1
        exact ex_next (tB := s1) (Or.inl ⟨rfl, ns⟩) hd hL hh k10 k9 hd0 (ENC_es enc k10) k2 k3 (by rw [k5.1.2.2]; exact h14) k6 (by omega) k4 k5 k8 k11 h7
      · obtain ⟨m, h7⟩ := hQ _ k2
        obtain ⟨v2, vv2, s2, h7⟩ := px_nsp ns k3 h7
        exact Or.inr ⟨v2, b', mo', pg', k1, h7, vv2, mb_sm k4 s2, by rw [s2.2]; exact k5, XH_tr k6 (SM_xh s2), (s2.1 13 (by decide)).trans k7⟩
  · intro pg n b mo c La Lb Q P v hd hL hh h5 hat hd0 enc hV hM h14 h13 hc hB h6 h7 hQ
    by_cases c2 : c.toInt = 200
    · exact ex_200 (PRS_tc tst d3 nb at_ pb cl sp pr) hd hL hV hM h14 h13 c2 hB h6 h7 hQ
    · rcases ex_tms d3 hL tst nb pb ihb cl at_.1 at_.2.1 ⟨at_.2.2, by have := PRS_lt pr; omega⟩ hsz h5 hat hd0 hV hM h14 h13 (by omega) hB h6 h7 with ⟨vA, n', cA, n99, pgA, bA, moA, z, k1, k2, k3, k4, k5, k6, k7, k8, k9, k10, k11⟩ | ⟨vA, b', mo', pg', k1, k2, k3, k4, k5, k6, k7⟩
      · obtain ⟨m, h7⟩ := hQ _ k1
        exact ex_next (Or.inr ⟨sp, ih, PRS_lt pr⟩) hd hL hh k10 k9 hd0 (ENC_es enc k10) k2 k3 (by rw [k5.1.2.2]; exact h14) k6 (by omega) k4 k5 k8 k11 h7
      · obtain ⟨m, h7⟩ := hQ _ k2
        obtain ⟨v2, m', vv2, s2, h7⟩ := px_sep sp k3 h7
        have x2 := XH_tr k6 (SM_xh s2)
        obtain ⟨v3, q1, q2, q3⟩ := prs_ro pr La Lb _ P v2 1 hd hL vv2 (by rw [x2.1.2.2]; exact h14) (Or.inr ((s2.1 13 (by decide)).trans k7)) h7 (fun u g => ⟨m', g.1 (by decide)⟩)
        have s3 := SM_tr s2 q3
        exact Or.inr ⟨v3, b', mo', pg', k1, q1, q2, mb_sm k4 s3, by rw [s3.2]; exact k5, XH_tr k6 (SM_xh s3), (s3.1 13 (by decide)).trans k7⟩

/-! run. -/
def SO (v v' : Md) : Prop := ie [6, 7, 8, 9, 10, 11, 12, 13, 14] v'.1 v.1 ∧ v'.2 = v.2
theorem SO_tr {u v w : Md} (a : SO u v) (b : SO v w) : SO u w := ⟨ie_tr b.1 (fun _ h => h) a.1, b.2.trans a.2⟩
theorem SN_so {v w : Md} (h : SN v w) : SO v w := ⟨fun k hk => h.1 k (fun g => hk (by
  simp only [List.mem_cons, List.not_mem_nil, or_false] at g ⊢
  omega)), h.2⟩
def stR (s : Tp) : Tp := ((va_up (va_up (va_up (va_up (va_up s.1 1 0) 2 0) 3 0) 4 0) 5 0), s.2)
def go0 (v : Md) : Md := ((va_up (va_up (va_up v.1 6 0) 13 0) 14 0), v.2.1, v.2.2.1, v.2.2.2)
theorem go0_so (v : Md) : SO v (go0 v) := ⟨ie_up (ie_up (ie_up (ie_refl _ _) (by decide)) (by decide)) (by decide), rfl⟩
theorem VV_0 {m0 : Md} {R W D : Int} {s1 : Tp} {v : Md} (hX : RX s1 v) (hf : rw_ok R W D (v.2.2.1 0)) (h5 : v.1 5 = m0.1 5) (h2 : v.2.2.2 2 = m0.2.2.2 2) : VV m0 R W D (stR s1) (go0 v) := ⟨⟨hX, rfl, (by show 0 ≤ (0 : Int32).toInt; decide), (by show (0 : Int32).toInt ≤ (v.1 5).toInt; exact hX.2.2.1), rfl⟩, hf, h5, h2⟩
def PGP (P7 : Int32 → Md → Prop) : Int32 → Md → Prop := fun r_1 u_2 => ((¬ r_1 = 0 → wp_X7_nextByte (fun r_4 u_5 => ((r_4 = (-1) → P7 1 u_5) ∧ (¬ r_4 = (-1) → wp_X7_fails (fun r_7 u_8 => ((r_7 = 0 → P7 0 u_8) ∧ (¬ r_7 = 0 → P7 1 u_8))) u_5 (1 : Int32) (u_5.1 6)))) u_2) ∧ (r_1 = 0 → P7 0 u_2))
theorem rd_prog {post : Pg → Tp → Prop} {P7 : Int32 → Md → Prop} {s1 : Tp} {s5 : Pg} {b : Bd} {v : Md} {N R W D : Int} (hX : RX s1 v) (hB : RB b (v.2.2.1 0)) (hM : mb N R W D v) (h6 : wp_X4_readFrom post s5 s1 b) (h7 : wp_X7_goesProgram P7 v 0) : (∃ pg t' v', post pg t' ∧ ¬ t'.1 5 = 0 ∧ P7 0 v' ∧ v'.1 7 = t'.1 5 ∧ SO v v') ∨ (∃ pg t' v', post pg t' ∧ t'.1 5 = 0 ∧ P7 1 v' ∧ SO v v' ∧ PRS v R W D pg 0 (stR s1) 0 t' (pg.1 1).toInt.toNat ∧ tb5 t' (t'.1 1) = -1 ∧ (0 ≤ (pg.1 1).toInt ∧ (pg.1 1).toInt ≤ 80) ∧ RX t' v) := by
  have e0 : (0 : Int32).toInt = 0 := rfl
  have hf := hM.2.2.2.2.1
  have hR := hf.2.2.2.2.2.1
  have rc := RB_cells hf hB
  have bx := hX.2.2
  unfold wp_X4_readFrom wp_X5_startReading at h6
  obtain ⟨n, h6⟩ := h6
  unfold wp_X7_goesProgram at h7
  have h7 : LV 4 (PGP P7) (go0 v) 0 := h7
  obtain ⟨La, Lb, eL, hL⟩ := LV_e (k := 4) (by decide) (by decide)
  rw [eL] at h7
  unfold GA at h7
  have vv := VV_0 (m0 := v) hX hf rfl rfl
  have k := rd_all (post := post) (m0 := v) (N := N) (D := D) rc.1 rc.2.1 rc.2.2.1 ⟨by omega, by omega, by omega, by omega, by omega, by omega⟩ n 0 ((va_up (va_up s5.1 0 0) 1 0), s5.2) (stR s1) (go0 v) 0 _ (PGP P7) La Lb (by decide) (fun _ => hL (by decide)) rfl vv (mb_k hM rfl rfl rfl) rfl rfl (by decide) (by show 6 * (0 : Int32).toInt ≤ (0 : Int32).toInt; decide) h6 h7 (fun u g => g.2 rfl) (fun u g => g.1 (by decide))
  rcases k with ⟨pg', t', v', k1, k2, k3, k4, k5⟩ | ⟨v', n', z4, n2, pg', t2, r, z2, k1, k2, k3, k4, k5, ⟨k6, k6b⟩, k7, ⟨k9, k10, k11, k12⟩, k13, k14, k15, k16, k17⟩
  · exact Or.inl ⟨pg', t', v', k1, k2, k3.2 rfl, k4, SO_tr (go0_so v) (SN_so k5)⟩
  · have p0 : pg'.1 0 = 0 := k13
    have h7 := k1.1 (by decide)
    have eb := VV_b k2 k6
    have h7 := e7_next (by rw [eb]; exact k6b) h7
    rw [eb] at h7
    have so : SO v v' := SO_tr (go0_so v) (SN_so (SM_sn k3))
    have r5 := k2.1.1.2.2
    have r6 := k2.1.2.2
    have a6 := congrArg Int32.toInt k2.1.2.1
    by_cases c : r = -1
    · have h6 := ((k5.1 (by rw [c]; decide)).2 c).1 (Int32.le_iff_toInt_le.mpr (by rw [p0]; decide))
      have rx : RX t2 v := by
        have q := k2.1.1
        obtain ⟨x1, x2, x3, x4, x5⟩ := q
        have e5 : v'.1 5 = v.1 5 := k2.2.2.1
        have e2 := k2.2.2.2
        rw [e5] at x1 x3 x4
        rw [e2] at x2 x5
        exact ⟨x1, x2, x3, x4, x5⟩
      refine Or.inr ⟨pg', t2, v', rd_x (h6.1 rfl), k2.1.2.2.2.2, h7.1 c, so, k7, k6.symm.trans c, ⟨by omega, by omega⟩, rx⟩
    · have bl : wp_X5_blame (fun u_8 => GK b post n' z4 0 pg' u_8) t2 (t2.1 1) 1 := by
        by_cases g : r = 41
        · exact ((k5.2 g).2 (fun q => by
            have := q_lt q
            rw [p0, e0] at this
            omega)).1 c
        · exact (k5.1 g).1 c
      obtain ⟨u', v2, h6, h7, g1, g2, g3⟩ := end_no k2 bl (h7.2 c)
      exact Or.inl ⟨pg', u', v2, rd_x (h6.1 rfl), g1, h7.1 rfl, g2, SO_tr so (SN_so (SM_sn g3))⟩
theorem ex_prog {post : Int32 → Bd → Mo → Pg → Prop} {P7 : Int32 → Md → Prop} {s1 t' : Tp} {pg0 : Pg} {b : Bd} {mo : Mo} {m0 w : Md} {N R W D : Int} (hD : 0 < D) (hX : RX s1 w) (hX2 : RX t' m0) (h5 : w.1 5 = m0.1 5) (h2 : w.2.2.2 2 = m0.2.2.2 2) (hB : RB b (w.2.2.1 0)) (hM : mb N R W D w) (hp : PRS m0 R W D pg0 0 (stR s1) 0 t' (pg0.1 1).toInt.toNat) (hend : tb5 t' (t'.1 1) = -1) (hsz : 0 ≤ (pg0.1 1).toInt ∧ (pg0.1 1).toInt ≤ 80) (h6 : wp_X6_doProgram post t' b mo pg0) (h7 : wp_X7_goesProgram P7 w 1) : ∃ r b' mo' pg' w', post r b' mo' pg' ∧ P7 1 w' ∧ w'.1 13 = r ∧ RB b' (w'.2.2.1 0) ∧ mb N R W D w' ∧ (w'.1 0 = w.1 0 ∧ (∀ k, (k = 1 ∨ k = 2 ∨ k = 3) → w'.2.2.1 k = w.2.2.1 k) ∧ w'.2.2.2 0 = w.2.2.2 0 ∧ w'.2.2.2 2 = w.2.2.2 2) := by
  have e0 : (0 : Int32).toInt = 0 := rfl
  have e200 : (200 : Int32).toInt = 200 := rfl
  have hf := hM.2.2.2.2.1
  unfold wp_X6_doProgram wp_X4_startDoing at h6
  obtain ⟨n, h6⟩ := h6
  unfold wp_X7_goesProgram at h7
  have h7 : LV 4 (PGP P7) (go0 w) 1 := h7
  obtain ⟨La, Lb, eL, hL⟩ := LV_e (k := 4) (by decide) (by decide)
  rw [eL] at h7
  unfold GA at h7
  have vv := VV_0 (m0 := m0) hX hf h5 h2
  have k := prs_ex (s1 := t') (post := post) (pg0 := pg0) (N := N) hD hX2 hsz.2 hp ((va_up (va_up pg0.1 0 0) 2 0), pg0.2) n b mo 0 La Lb _ (PGP P7) (go0 w) (by decide) (fun _ => hL (by decide)) (by omega) ⟨rfl, fun _ _ => rfl⟩ rfl rfl (Or.inl rfl) vv (mb_k hM rfl rfl rfl) rfl rfl (by decide) hB h6 h7 (fun u g => g.1 (by decide))
  have fin : ∀ v' : Md, PGP P7 1 v' → VV m0 R W D t' v' → P7 1 v' := fun v' a hv => by
    have eb := VV_b hv hend.symm
    have a := e7_next (by rw [eb]; decide) (a.1 (by decide))
    rw [eb] at a
    exact a.1 rfl
  have fr : ∀ v' : Md, XH (go0 w) v' → (v'.1 0 = w.1 0 ∧ (∀ k, (k = 1 ∨ k = 2 ∨ k = 3) → v'.2.2.1 k = w.2.2.1 k) ∧ v'.2.2.2 0 = w.2.2.2 0 ∧ v'.2.2.2 2 = w.2.2.2 2) := fun v' a => ⟨a.1.1, a.2.1, a.2.2.1, a.2.2.2⟩
  rcases k with ⟨v', n', c', n99, pg', b', mo', z, k1, k2, k3, k4, k5, k6, k7, k8, k9, k10, k11⟩ | ⟨v', b', mo', pg', k1, k2, k3, k4, k5, k6, k7⟩
  · have pd : (pg'.1 0).toInt = ((0 : Nat) : Int) := by rw [k10.2.1]; rfl
    have h6 := wl_exit (hi := 0) k8 k10.1 pd (Or.inl rfl) (Or.inl rfl)
    have sz := congrArg Int32.toInt k10.1.1
    cases n' with
    | zero => exact (show False from h6).elim
    | succ n' =>
      unfold R9 wp_X6_doProgram_L9 at h6
      by_cases c : 200 ≤ c'
      · have := q_le c
        have e : c' = 200 := Int32.toInt_inj.mp (by omega)
        exact ⟨200, b', mo', pg', v', h6.1 c, fin v' k1 k2, k6.trans e, k4, k3, fr v' k5⟩
      · have h6 := h6.2 c
        unfold wp_X4_hasStep at h6
        have h6 := (h6.2 (fun g => by have := q_lt g; omega)).1 (Int32.le_iff_toInt_le.mpr (by omega))
        exact ⟨c', b', mo', pg', v', h6.2 rfl, fin v' k1 k2, k6, k4, k3, fr v' k5⟩
  · exact ⟨200, b', mo', pg', v', k1, fin v' k2 k3, k7, k5, k4, fr v' k6⟩
theorem nz2 {y : Int32} (h : 0 ≤ y.toInt ∧ y.toInt ≤ 5000) : ¬ (-2) - y = 0 := fun g => by
  have s := tq_sub (-2) y
  have em2 : (-2 : Int32).toInt = -2 := rfl
  have e0 : (0 : Int32).toInt = 0 := rfl
  rw [g, em2, e0] at s
  have s := nw s (by omega)
  omega
theorem sm_run {P6 : Int32 → Tp → Bd → Mo → Pg → Pa → Prop} {P7 : Int32 → Md → Prop} {s1 : Tp} {s2 : Bd} {s4 : Mo} {s5 : Pg} {s6 : Pa} {m : Md} {N N6 R W D R6 W6 : Int} (hz : tz N6 s1) (hb : bi R6 W6 s2) (h5 : pz s5) (hx : RX s1 m) (hp : pa s6) (hP : RP s6 m) (hB : RB s2 (m.2.2.1 0)) (hM : mb N R W D m) (hs : R ≤ 0 ∨ 0 < D) (h6 : wp_X6_run P6 s1 s2 s4 s5 s6) (h7 : wp_X7_run P7 m) : ∃ r t b mo pg p m', P6 r t b mo pg p ∧ P7 r m' ∧ AR m m' b p := by
  have e0 : (0 : Int32).toInt = 0 := rfl
  have em2 : (-2 : Int32).toInt = -2 := rfl
  have hf := hM.2.2.2.2.1
  have hR := hf.2.2.2.2.2.1
  have rc := RB_cells hf hB
  unfold wp_X6_run wp_X6_whyNotProgram at h6
  unfold wp_X7_run at h7
  rcases e0_isThere h6 with ⟨h6, g⟩ | ⟨h6, g⟩
  · rcases e7_isBoard hf h7 with ⟨h7, hD⟩ | ⟨_, gD⟩
    · have h6 := h6.1 (by decide)
      have h7 := h7.2 (by decide)
      have h6 := cj2 (F := fun P => wp_X4_readFrom P s5 s1 s2) (dt_X4_readFrom s5 s1 s2) h6 (wq_X4_readFrom (post := fun _ t => tk N6 t) h5 hz hb (fun _ _ _ a => a))
      rcases rd_prog hx hB hM h6 h7 with ⟨pg, t', v', ⟨h6, tk6⟩, k2, h7, k4, k5⟩ | ⟨pg, t', v', ⟨h6, tk6⟩, k2, h7, k4, k5, k6, k8, k9⟩
      · have h6 := ((e5_isSound h6).2 k2).1 rfl
        have ft := tk6.2.1.2.2.2.2.2
        have nz : ¬ (-2) - t'.1 5 = 0 := nz2 ft
        have h7 := h7.1 rfl
        rcases e7_isBoard (s := ((va_up v'.1 5 0), v'.2.1, v'.2.2.1, v'.2.2.2)) (by show rw_ok R W D (v'.2.2.1 0); rw [k5.2]; exact hf) h7 with ⟨h7, _⟩ | ⟨_, g⟩
        · have h7 := h7.1 (by decide)
          rw [k4] at h7
          exact ⟨_, _, s2, s4, pg, s6, _, h6.1 nz, h7, (by show RB s2 (v'.2.2.1 0); rw [k5.2]; exact hB), RP_k hP (k5.1 0 (by decide)) (by show v'.2.2.1 1 = _; rw [k5.2]), (by show v'.2.2.2 0 = _; rw [k5.2]), (by show v'.2.2.1 2 = _; rw [k5.2])⟩
        · omega
      · have h6 := (((e5_isSound h6).1 k2).2 (by decide)).2 rfl
        have h7 := h7.2 (by decide)
        have B1 : RB s2 (v'.2.2.1 0) := by rw [k4.2]; exact hB
        have M1 : mb N R W D v' := mb_k hM (k4.1 0 (by decide)) (k4.1 5 (by decide)) k4.2
        obtain ⟨p6, u, h6, h7, q1, q2, q3, q4, q5, q6⟩ := sm_push hp (RP_k hP (k4.1 0 (by decide)) (by rw [k4.2])) B1 M1 hs h6 h7
        have u0 : u.2.2.1 0 = v'.2.2.1 0 := q6 0 (by decide)
        have u5 : u.1 5 = m.1 5 := (q3 5 (by decide)).trans (k4.1 5 (by decide))
        have u2 : u.2.2.2 = m.2.2.2 := by rw [q5, k4.2]
        have xu : RX s1 u := by
          obtain ⟨x1, x2, x3, x4, x5⟩ := hx
          refine ⟨by rw [u5]; exact x1, by rw [u2]; exact x2, by rw [u5]; exact x3, by rw [u5]; exact x4, by rw [u2]; exact x5⟩
        obtain ⟨r, b', mo', pg', w', h6, h7, g13, gB, gM, g0, gr, gk, _⟩ := ex_prog hD xu k9 u5 (by rw [u2]) (by rw [u0]; exact B1) q2 k5 k6 k8 h6 h7
        rcases e7_isBoard (s := ((va_up w'.1 5 0), w'.2.1, w'.2.2.1, w'.2.2.2)) gM.2.2.2.2.1 h7 with ⟨h7, _⟩ | ⟨_, g⟩
        · have h7 := (h7.1 (by decide)).2 (by decide)
          rw [g13] at h7
          refine ⟨r, _, b', mo', pg', p6, _, h6, h7, gB, RP_k q1 g0 (gr 1 (by omega)), ?_, ?_⟩
          · show w'.2.2.2 0 = _
            rw [gk, u2]
          · show w'.2.2.1 2 = _
            rw [gr 2 (by omega), q6 2 (by decide), k4.2]
        · omega
    · omega
  · rcases e7_isBoard hf h7 with ⟨_, hD⟩ | ⟨h7, _⟩
    · omega
    · rcases e7_isBoard (s := ((va_up m.1 5 0), m.2.1, m.2.2.1, m.2.2.2)) hf (h7.1 rfl) with ⟨_, hD⟩ | ⟨h7, _⟩
      · omega
      · exact ⟨_, _, s2, s4, s5, s6, _, (h6.2 rfl).1 (by decide), h7.2 rfl, hB, RP_k hP rfl rfl, rfl, rfl⟩

/-! when, loudest, rests: a turning on a copy, and the board as it was. -/
def NB (m m' : Md) : Prop := (∀ i : Nat, i < 6896 → m'.2.2.1 0 i = m.2.2.1 0 i) ∧ m'.1 0 = m.1 0 ∧ m'.2.2.1 1 = m.2.2.1 1 ∧ m'.2.2.1 2 = m.2.2.1 2 ∧ m'.2.2.2 0 = m.2.2.2 0
theorem NB_rf (m : Md) : NB m m := ⟨fun _ _ => rfl, rfl, rfl, rfl, rfl⟩
theorem NB_tb {m u v w : Md} (a : ASD m u) (t : TG u v) (b : TBK v w) : NB m w := by
  obtain ⟨a1, a2, a3, a4, a5⟩ := a
  obtain ⟨b1, b2, b3, b4, b5⟩ := b
  refine ⟨fun i hi => ?_, ?_, ?_, ?_, ?_⟩
  · rw [b5 i hi, t.2.2.2.1]
    exact a5 i hi
  · rw [b1, t.1.1, a1]
  · rw [b4 1 (by decide), t.2.1, a4 1 (by decide)]
  · rw [b4 2 (by decide), t.2.2.1, a4 2 (by decide)]
  · rw [b3, t.2.2.2.2, a3]
theorem e0_wrong {P : Int32 → Prop} {s : Bd} {f : Nat → Int64} {x : Int32} {R W D : Int} (hf : rw_ok R W D f) (hD : 0 < D) (hB : RB s f) (hx : 0 ≤ x.toInt ∧ x.toInt < R * W) (h : wp_X0_showsWrong P s x) : (WS f x.toInt.toNat 1 = WS f x.toInt.toNat 3 → P 0) ∧ (¬ WS f x.toInt.toNat 1 = WS f x.toInt.toNat 3 → P 1) := by
  unfold wp_X0_showsWrong at h
  have at_ := RB_x (c := x.toInt.toNat) hf hB (by omega)
  have h := h.2
  rw [tn_i] at h
  have h := e0_signOn (j := 1) hf hD hB hx (by omega) at_.2.1 h
  have h := e0_wantedSign hf hD hB hx h
  exact h
theorem e7_other {P : Int32 → Prop} {s : Md} {x : Int32} {R W D : Int} (hf : rw_ok R W D (s.2.2.1 0)) (hD : 0 < D) (hx : 0 ≤ x.toInt ∧ x.toInt < R * W) (h : wp_X7_isOther P s x) : (WS (s.2.2.1 0) x.toInt.toNat 1 = WS (s.2.2.1 0) x.toInt.toNat 3 → P 0) ∧ (¬ WS (s.2.2.1 0) x.toInt.toNat 1 = WS (s.2.2.1 0) x.toInt.toNat 3 → P 1) := by
  unfold wp_X7_isOther at h
  have h := e7_signAt (j := 1) hf hD hx rfl (by omega) h
  have h := e7_signAt (j := 3) hf hD hx rfl (by omega) h
  exact h
theorem sm_others_L {P6 P7 : Int32 → Prop} {b : Bd} {v : Md} {R W D : Int} (hf : rw_ok R W D (v.2.2.1 0)) (hD : 0 < D) (hB : RB b (v.2.2.1 0)) : ∀ (n6 n7 : Nat) (z1 z2 : Int32), 0 ≤ z2.toInt → z2.toInt ≤ R * W → wp_X0_wrongCount_L4 b P6 (fun z _ => P6 z) n6 z1 z2 → wp_X7_others_L4 v P7 (fun z _ => P7 z) n7 z1 z2 → ∃ r, P6 r ∧ P7 r := by
  have e1 : (1 : Int32).toInt = 1 := rfl
  have hR := hf.2.2.2.2.2.1
  have rc := RB_cells hf hB
  have rn := rw_n hf
  have ec : Int64.toInt32 (v.2.2.1 0 0) * Int64.toInt32 (v.2.2.1 0 1) = b.1 0 * b.1 1 := Int32.toInt_inj.mp (rn.2.2.2.1.trans rc.2.2.1.symm)
  intro n6
  induction n6 with
  | zero =>
    intro n7 z1 z2 _ _ h
    exact (show False from h).elim
  | succ n6 ih =>
    intro n7 z1 z2 h0 h1 h6 h7
    cases n7 with
    | zero => exact (show False from h7).elim
    | succ n7 =>
      unfold wp_X0_wrongCount_L4 at h6
      unfold wp_X7_others_L4 at h7
      have h6 := cells6_e h6
      have h7 := cells7_e h7
      rw [ec] at h7
      by_cases c : b.1 0 * b.1 1 ≤ z2
      · exact ⟨z1, h6.1 c, h7.1 c⟩
      · have := q_nle c
        have s := nw (tq_addr e1 z2) (by omega)
        have h6 := e0_wrong hf hD hB ⟨h0, by omega⟩ (h6.2 c)
        have h7 := e7_other hf hD ⟨h0, by omega⟩ (h7.2 c)
        by_cases g : WS (v.2.2.1 0) z2.toInt.toNat 1 = WS (v.2.2.1 0) z2.toInt.toNat 3
        · have h7 := (h7.1 g).1 rfl
          rw [Int32.add_zero] at h7
          exact ih n7 z1 (z2 + 1) (by omega) (by omega) ((h6.1 g).1 rfl) h7
        · exact ih n7 (z1 + 1) (z2 + 1) (by omega) (by omega) ((h6.2 g).2 (by decide)) ((h7.2 g).2 (by decide))
theorem oth_any {P7 : Int32 → Prop} {v : Md} {R W D : Int} (hf : rw_ok R W D (v.2.2.1 0)) (hD : 0 < D) : ∀ (n7 : Nat) (z1 z2 : Int32), 0 ≤ z2.toInt → z2.toInt ≤ R * W → wp_X7_others_L4 v P7 (fun z _ => P7 z) n7 z1 z2 → ∃ r, P7 r := by
  have e1 : (1 : Int32).toInt = 1 := rfl
  have hR := hf.2.2.2.2.2.1
  have rn := rw_n hf
  intro n7
  induction n7 with
  | zero =>
    intro z1 z2 _ _ h
    exact (show False from h).elim
  | succ n7 ih =>
    intro z1 z2 h0 h1 h7
    unfold wp_X7_others_L4 at h7
    have h7 := cells7_e h7
    by_cases c : Int64.toInt32 (v.2.2.1 0 0) * Int64.toInt32 (v.2.2.1 0 1) ≤ z2
    · exact ⟨z1, h7.1 c⟩
    · have := q_nle c
      have s := nw (tq_addr e1 z2) (by omega)
      have h7 := e7_other hf hD ⟨h0, by omega⟩ (h7.2 c)
      by_cases g : WS (v.2.2.1 0) z2.toInt.toNat 1 = WS (v.2.2.1 0) z2.toInt.toNat 3
      · exact ih (z1 + 0) (z2 + 1) (by omega) (by omega) ((h7.1 g).1 rfl)
      · exact ih (z1 + 1) (z2 + 1) (by omega) (by omega) ((h7.2 g).2 (by decide))
theorem sm_others {P6 P7 : Int32 → Prop} {b : Bd} {v : Md} {R W D : Int} (hf : rw_ok R W D (v.2.2.1 0)) (hD : 0 < D) (hB : RB b (v.2.2.1 0)) (h6 : wp_X0_wrongCount P6 b) (h7 : wp_X7_others P7 v) : ∃ r, P6 r ∧ P7 r := by
  have hR := hf.2.2.2.2.2.1
  obtain ⟨n6, h6⟩ := h6
  obtain ⟨n7, h7⟩ := h7
  exact sm_others_L hf hD hB n6 n7 0 0 (by decide) (by show (0 : Int) ≤ R * W; omega) h6 h7
theorem TT_67 {a a' : Nat → Int32} {v v' : Md} {k : Nat} (h : TT a v a' v' k) : Int64.toInt32 (v'.2.2.1 0 6) + a 3 = Int64.toInt32 (v.2.2.1 0 6) + a' 3 ∧ Int64.toInt32 (v'.2.2.1 0 7) + a 8 = Int64.toInt32 (v.2.2.1 0 7) + a' 8 := by
  refine TT_ind (M := fun a v a' v' k => Int64.toInt32 (v'.2.2.1 0 6) + a 3 = Int64.toInt32 (v.2.2.1 0 6) + a' 3 ∧ Int64.toInt32 (v'.2.2.1 0 7) + a 8 = Int64.toInt32 (v.2.2.1 0 7) + a' 8) (fun a a' v g => ?_) (fun a a' v v1 v' r fo k g t ih => ?_) k h
  · rw [g 3 (by decide) (by decide), g 8 (by decide) (by decide)]
    exact ⟨rfl, rfl⟩
  · obtain ⟨i1, i2⟩ := ih
    have i1 : Int64.toInt32 (v'.2.2.1 0 6) + (a 3 + r) = Int64.toInt32 (v1.2.2.1 0 6) + a' 3 := i1
    have i2 : Int64.toInt32 (v'.2.2.1 0 7) + (a 8 + fo) = Int64.toInt32 (v1.2.2.1 0 7) + a' 8 := i2
    rw [g.2.2.2.2.2.1, ← Int32.add_assoc, Int32.add_assoc _ r, Int32.add_comm r, ← Int32.add_assoc] at i1
    rw [g.2.2.2.2.1, ← Int32.add_assoc, Int32.add_assoc _ fo, Int32.add_comm fo, ← Int32.add_assoc] at i2
    exact ⟨(Int32.add_left_inj _).mp i1, (Int32.add_left_inj _).mp i2⟩
theorem e7_when_t {post : Int32 → Md → Prop} {e : Md → Int32 → Int32 → Int32 → Int32 → Prop} {z1 : Int32} {a a' : Nat → Int32} {v v' : Md} {k : Nat} (ht : TT a v a' v' k) : ∀ (n : Nat), wp_X7_when_L32 post e n v z1 (a 2) (a 4) (a 5) → ∃ n', wp_X7_when_L32 post e n' v' z1 (a' 2) (a' 4) (a' 5) := by
  have e0 : (0 : Int32).toInt = 0 := rfl
  refine TT_ind (M := fun a v a' v' k => ∀ (n : Nat), wp_X7_when_L32 post e n v z1 (a 2) (a 4) (a 5) → ∃ n', wp_X7_when_L32 post e n' v' z1 (a' 2) (a' 4) (a' 5)) (fun a a' v g => ?_) (fun a a' v v1 v' r fo k g t ih => ?_) k ht
  · intro n h
    rw [g 2 (by decide) (by decide), g 4 (by decide) (by decide), g 5 (by decide) (by decide)]
    exact ⟨n, h⟩
  · intro n h
    cases n with
    | zero => exact (show False from h).elim
    | succ n =>
      unfold wp_X7_when_L32 at h
      have h := (g.1 _ h).2 (fun c => by have := q_le c; have := g.2.2.1; omega)
      rw [g.2.1] at h
      refine ih n ?_
      have k5 : cu a r (v1.1 2) fo 5 = (if a 5 < v1.1 2 then v1.1 2 else a 5) := rfl
      show wp_X7_when_L32 post e n v1 z1 (a 2 + 1) (a 4 + r * r) (cu a r (v1.1 2) fo 5)
      rw [k5]
      by_cases c : v1.1 2 ≤ a 5
      · rw [if_neg (fun q => by have := q_lt q; have := q_le c; omega)]
        exact h.1 c
      · rw [if_pos (Int32.lt_iff_toInt_lt.mpr (by have := q_nle c; omega))]
        exact h.2 c
theorem sm_when {P6 : Int32 → Bd → Mo → Prop} {P7 : Int32 → Md → Prop} {s2 s3 : Bd} {s4 : Mo} {m : Md} {x1 : Int32} {N R W D : Int} (hB : RB s2 (m.2.2.1 0)) (hM : mb N R W D m) (hs : R ≤ 0 ∨ 0 < D) (h6 : wp_X6_when P6 s2 s3 s4 x1) (h7 : wp_X7_when P7 m x1) : ∃ r b t m', P6 r b t ∧ P7 r m' ∧ NB m m' := by
  have e0 : (0 : Int32).toInt = 0 := rfl
  have e5 : (5 : Int32).toInt = 5 := rfl
  have e1 : (1 : Int32).toInt = 1 := rfl
  have t6 : Int32.toNatClampNeg 6 = 6 := rfl
  have t7 : Int32.toNatClampNeg 7 = 7 := rfl
  have hf := hM.2.2.2.2.1
  have hR := hf.2.2.2.2.2.1
  have rc := RB_cells hf hB
  have fl : ∀ r, P6 r s3 s4 → P7 r m → ∃ r b t m', P6 r b t ∧ P7 r m' ∧ NB m m' := fun r a b => ⟨r, s3, s4, m, a, b, NB_rf m⟩
  unfold wp_X6_when at h6
  unfold wp_X7_when at h7
  rcases e0_isThere h6 with ⟨h6, g⟩ | ⟨h6, g⟩
  · rcases e7_isBoard hf h7 with ⟨h7, hD⟩ | ⟨_, gD⟩
    · have h6 := h6.2 (by decide)
      rcases e7_inC (i := 0) (j := 5) rfl rfl (h7.2 (by decide)) with ⟨h7, j1, j2⟩ | ⟨h7, j⟩
      · have h6 := (h6.2 (fun c => by have := q_lt c; omega)).1 (Int32.le_iff_toInt_le.mpr (by omega))
        unfold wp_X6_tryToSettle at h6
        obtain ⟨cp, h6, ag, _⟩ := e0_copyBut h6
        obtain ⟨u, h7, as⟩ := e7_putsAside (h7.1 (by decide))
        have mu := ASD_mb hM hs as
        have u0 : u.2.2.1 0 = m.2.2.1 0 := as.2.2.2.1 0 (by decide)
        obtain ⟨n, h7⟩ := h7
        obtain ⟨k, t', b', v', r1, r2, r3, r4, r5, r6, r7⟩ := sm_trnS mu hD (by rw [u0]; exact RB_ag hf ag hB) h6
        obtain ⟨n', h7⟩ := e7_when_t r2 n h7
        cases n' with
        | zero => exact (show False from h7).elim
        | succ n' =>
          unfold wp_X7_when_L32 at h7
          obtain ⟨w, h7, w2, w3, w4⟩ := e7_idle r4 hD r3 r7 h7
          have h7 := h7.1 (by decide)
          have tg := TG_tr r5 w4
          have q67 := TT_67 r2
          have a6 : w.2.2.1 3 6 = u.2.2.1 0 6 := by
            rw [tg.2.2.2.1, u0]
            exact as.2.2.2.2 6 (by decide)
          have a7 : w.2.2.1 3 7 = u.2.2.1 0 7 := by
            rw [tg.2.2.2.1, u0]
            exact as.2.2.2.2 7 (by decide)
          rw [Int32.add_zero, Int32.add_zero] at q67
          have v6 : Int64.toInt32 (w.2.2.1 0 6 - w.2.2.1 3 6) = t'.1 3 := by
            rw [Int64.toInt32_sub, w2, a6, q67.1]
            exact sub_add32 _ _
          have v7 : Int64.toInt32 (w.2.2.1 0 7 - w.2.2.1 3 7) = t'.1 8 := by
            rw [Int64.toInt32_sub, w2, a7, q67.2]
            exact sub_add32 _ _
          rw [t6, t7, v6, v7] at h7
          by_cases c4 : x1 = 4
          · have r1' := (((r1.2 (by rw [c4]; decide)).2 (by rw [c4]; decide)).2 (by rw [c4]; decide)).2 (by rw [c4]; decide)
            obtain ⟨r, g6, g7⟩ := sm_others w3.2.2.2.2.1 hD (by rw [w2]; exact r3) (r1'.1 c4) h7
            obtain ⟨y, g7, tb⟩ := e7_takesBack g7
            exact ⟨r, b', t', y, g6, ((((g7.2 (by rw [c4]; decide)).2 (by rw [c4]; decide)).2 (by rw [c4]; decide)).2 (by rw [c4]; decide)).1 c4, NB_tb as tg tb⟩
          · obtain ⟨n9, h7⟩ := h7
            obtain ⟨ro, h7⟩ := oth_any w3.2.2.2.2.1 hD n9 0 0 (by decide) (by show (0 : Int) ≤ R * W; omega) h7
            obtain ⟨y, g7, tb⟩ := e7_takesBack h7
            have nb := NB_tb as tg tb
            by_cases c0 : x1 = 0
            · exact ⟨_, b', t', y, r1.1 c0, g7.1 c0, nb⟩
            have r1 := r1.2 c0
            have g7 := g7.2 c0
            by_cases c1 : x1 = 1
            · exact ⟨_, b', t', y, r1.1 c1, g7.1 c1, nb⟩
            have r1 := r1.2 c1
            have g7 := g7.2 c1
            by_cases c2 : x1 = 2
            · exact ⟨_, b', t', y, r1.1 c2, g7.1 c2, nb⟩
            have r1 := r1.2 c2
            have g7 := g7.2 c2
            by_cases c3 : x1 = 3
            · exact ⟨_, b', t', y, r1.1 c3, g7.1 c3, nb⟩
            have r1 := (r1.2 c3).2 c4
            have g7 := (g7.2 c3).2 c4
            have c5 : x1 = 5 := by
              refine Int32.toInt_inj.mp ?_
              have n0 : ¬ x1.toInt = 0 := fun q => c0 (Int32.toInt_inj.mp q)
              have n1 : ¬ x1.toInt = 1 := fun q => c1 (Int32.toInt_inj.mp q)
              have n2 : ¬ x1.toInt = 2 := fun q => c2 (Int32.toInt_inj.mp q)
              have n3 : ¬ x1.toInt = 3 := fun q => c3 (Int32.toInt_inj.mp q)
              have n4 : ¬ x1.toInt = 4 := fun q => c4 (Int32.toInt_inj.mp q)
              omega
            exact ⟨_, b', t', y, r1.1 c5, g7, nb⟩
      · by_cases c : x1 < 0
        · exact fl _ (h6.1 c) (h7.2 rfl)
        · have := q_nlt c
          exact fl _ ((h6.2 c).2 (fun c => by have := q_le c; omega)) (h7.2 rfl)
    · omega
  · rcases e7_isBoard hf h7 with ⟨_, hD⟩ | ⟨h7, _⟩
    · omega
    · exact fl _ (h6.1 rfl) (h7.1 rfl)

/-! loudest, rests. -/
def LD (a : Nat → Int32) (z2 z3 z4 : Int32) : Prop := z4 = a 2 ∧ (0 ≤ z3.toInt ∧ z3.toInt ≤ 40) ∧ a 7 = z3 * z3 ∧ 0 ≤ (a 2).toInt ∧ (((a 2).toInt = 0 ∧ z2 = -2 ∧ z3 = 0) ∨ (1 ≤ (a 2).toInt ∧ z2 = a 6 ∧ 0 ≤ z2.toInt))
theorem sq_le {r z : Int32} (hr : 0 ≤ r.toInt ∧ r.toInt ≤ 40) (hz : 0 ≤ z.toInt ∧ z.toInt ≤ 40) : r * r ≤ z * z ↔ r.toInt ≤ z.toInt := by
  have s : ∀ {y : Int32}, 0 ≤ y.toInt ∧ y.toInt ≤ 40 → (y * y).toInt = y.toInt * y.toInt := fun {y} hy => by
    have b : 0 ≤ y.toInt * y.toInt ∧ y.toInt * y.toInt ≤ 1600 := ⟨Int.mul_nonneg hy.1 hy.1, by
      have := Int.mul_le_mul hy.2 hy.2 hy.1 (by omega : (0 : Int) ≤ 40)
      omega⟩
    exact nw (tq_mul y y) (by omega)
  rw [Int32.le_iff_toInt_le, s hr, s hz]
  constructor
  · intro h
    by_cases c : r.toInt ≤ z.toInt
    · exact c
    · exfalso
      have := Int.mul_lt_mul' (show z.toInt ≤ r.toInt by omega) (show z.toInt < r.toInt by omega) hz.1 (by omega)
      omega
  · intro h
    exact Int.mul_le_mul h h hr.1 hz.1
theorem e7_loud_t {post : Int32 → Md → Prop} {e : Md → Int32 → Int32 → Int32 → Int32 → Prop} {z1 : Int32} {a a' : Nat → Int32} {v v' : Md} {k : Nat} (ht : TT a v a' v' k) : ∀ (n : Nat) (z2 z3 z4 : Int32), LD a z2 z3 z4 → (a 2).toInt + (k : Int) ≤ 5000 → wp_X7_loudest_L31 post e n v z1 z2 z3 z4 → ∃ n' z2' z3' z4', LD a' z2' z3' z4' ∧ wp_X7_loudest_L31 post e n' v' z1 z2' z3' z4' := by
  have e0 : (0 : Int32).toInt = 0 := rfl
  have e1 : (1 : Int32).toInt = 1 := rfl
  refine TT_ind (M := fun a v a' v' k => ∀ (n : Nat) (z2 z3 z4 : Int32), LD a z2 z3 z4 → (a 2).toInt + (k : Int) ≤ 5000 → wp_X7_loudest_L31 post e n v z1 z2 z3 z4 → ∃ n' z2' z3' z4', LD a' z2' z3' z4' ∧ wp_X7_loudest_L31 post e n' v' z1 z2' z3' z4') (fun a a' v g => ?_) (fun a a' v v1 v' r fo k g t ih => ?_) k ht
  · intro n z2 z3 z4 hl _ h
    refine ⟨n, z2, z3, z4, ?_, h⟩
    unfold LD
    rw [g 2 (by decide) (by decide), g 6 (by decide) (by decide), g 7 (by decide) (by decide)]
    exact hl
  · intro n z2 z3 z4 hl hb h
    obtain ⟨l1, l2, l3, l4, l5⟩ := hl
    cases n with
    | zero => exact (show False from h).elim
    | succ n =>
      unfold wp_X7_loudest_L31 at h
      have h := (g.1 _ h).2 (fun c => by have := q_le c; have := g.2.2.1; omega)
      rw [g.2.1] at h
      have hr := g.2.2.1
      have sq := sq_le (r := r) (z := z3) (by omega) l2
      have s2 := nw (tq_addr e1 (a 2)) (by omega)
      have k6 : cu a r (v1.1 2) fo 6 = (if r * r ≤ a 7 then a 6 else a 2) := rfl
      have k7 : cu a r (v1.1 2) fo 7 = (if r * r ≤ a 7 then a 7 else r * r) := rfl
      have k2 : cu a r (v1.1 2) fo 2 = a 2 + 1 := rfl
      by_cases c : z3 < r
      · have := q_lt c
        have nq : ¬ r * r ≤ a 7 := fun q => by
          rw [l3] at q
          have := sq.mp q
          omega
        refine ih n z4 r (z4 + 1) ⟨by rw [k2, l1], by omega, by rw [k7, if_neg nq], by rw [k2]; omega, Or.inr ⟨by rw [k2]; omega, by rw [k6, if_neg nq]; exact l1, by rw [l1]; exact l4⟩⟩ (by rw [k2]; omega) (h.1 c)
      · have := q_nlt c
        have yq : r * r ≤ a 7 := by
          rw [l3]
          exact sq.mpr (by omega)
        refine ih n z2 z3 (z4 + 1) ⟨by rw [k2, l1], l2, by rw [k7, if_pos yq]; exact l3, by rw [k2]; omega, Or.inr ⟨by rw [k2]; omega, ?_⟩⟩ (by rw [k2]; omega) (h.2 c)
        rcases l5 with ⟨_, _, q⟩ | ⟨_, q1, q2⟩
        · exfalso
          rw [q, e0] at this
          omega
        · exact ⟨by rw [k6, if_pos yq]; exact q1, q2⟩
theorem sm_loudest {P6 : Int32 → Bd → Mo → Prop} {P7 : Int32 → Md → Prop} {s2 s3 : Bd} {s4 : Mo} {m : Md} {x1 : Int32} {N R W D : Int} (hB : RB s2 (m.2.2.1 0)) (hM : mb N R W D m) (hs : R ≤ 0 ∨ 0 < D) (h6 : wp_X6_loudest P6 s2 s3 s4 x1) (h7 : wp_X7_loudest P7 m x1) : ∃ r b t m', P6 r b t ∧ P7 r m' ∧ NB m m' := by
  have e0 : (0 : Int32).toInt = 0 := rfl
  have e1 : (1 : Int32).toInt = 1 := rfl
  have em : (-2 : Int32).toInt = -2 := rfl
  have hf := hM.2.2.2.2.1
  have hR := hf.2.2.2.2.2.1
  have rc := RB_cells hf hB
  have fl : ∀ r, P6 r s3 s4 → P7 r m → ∃ r b t m', P6 r b t ∧ P7 r m' ∧ NB m m' := fun r a b => ⟨r, s3, s4, m, a, b, NB_rf m⟩
  unfold wp_X6_loudest at h6
  unfold wp_X7_loudest at h7
  rcases e0_isThere h6 with ⟨h6, g⟩ | ⟨h6, g⟩
  · rcases e7_isBoard hf h7 with ⟨h7, hD⟩ | ⟨_, gD⟩
    · have h6 := h6.2 (by decide)
      rcases e7_inC (i := 0) (j := 1) rfl rfl (h7.2 (by decide)) with ⟨h7, j1, j2⟩ | ⟨h7, j⟩
      · have h6 := (h6.2 (fun c => by have := q_lt c; omega)).1 (Int32.le_iff_toInt_le.mpr (by omega))
        unfold wp_X6_tryToSettle at h6
        obtain ⟨cp, h6, ag, _⟩ := e0_copyBut h6
        obtain ⟨u, h7, as⟩ := e7_putsAside (h7.1 (by decide))
        have mu := ASD_mb hM hs as
        have u0 : u.2.2.1 0 = m.2.2.1 0 := as.2.2.2.1 0 (by decide)
        obtain ⟨n, h7⟩ := h7
        obtain ⟨k, t', b', v', r1, r2, r3, r4, r5, r6, r7⟩ := sm_trnS mu hD (by rw [u0]; exact RB_ag hf ag hB) h6
        obtain ⟨n', z2, z3, z4, ⟨l1, l2, l3, l4, l5⟩, h7⟩ := e7_loud_t r2 n (-2) 0 0 ⟨rfl, by decide, by decide, by decide, Or.inl ⟨rfl, rfl, rfl⟩⟩ (by rw [e0]; omega) h7
        cases n' with
        | zero => exact (show False from h7).elim
        | succ n' =>
          unfold wp_X7_loudest_L31 at h7
          obtain ⟨w, h7, w2, w3, w4⟩ := e7_idle r4 hD r3 r7 h7
          have tg := TG_tr r5 w4
          obtain ⟨y, g7, tb⟩ := e7_takesBack (h7.1 (by decide))
          have nb := NB_tb as tg tb
          rcases l5 with ⟨q1, q2, q3⟩ | ⟨q1, q2, q3⟩
          · have c : t'.1 2 = 0 := Int32.toInt_inj.mp (q1.trans e0.symm)
            have g7 := g7.1 q2
            rw [q2] at g7
            exact ⟨_, b', t', y, r1.2 c, g7, nb⟩
          · have c : ¬ t'.1 2 = 0 := fun q => by
              rw [q, e0] at q1
              omega
            have c2 : ¬ z2 = -2 := fun q => by
              rw [q, em] at q3
              omega
            have r1 := r1.1 c
            have g7 := g7.2 c2
            by_cases cx : x1 = 0
            · have g7 := g7.2 cx
              rw [q2] at g7
              exact ⟨_, b', t', y, r1.2 cx, g7, nb⟩
            · have g7 := g7.1 cx
              rw [← l3] at g7
              exact ⟨_, b', t', y, r1.1 cx, g7, nb⟩
      · by_cases c : x1 < 0
        · exact fl _ (h6.1 c) (h7.2 rfl)
        · have := q_nlt c
          exact fl _ ((h6.2 c).2 (fun c => by have := q_le c; omega)) (h7.2 rfl)
    · omega
  · rcases e7_isBoard hf h7 with ⟨_, hD⟩ | ⟨h7, _⟩
    · omega
    · exact fl _ (h6.1 rfl) (h7.1 rfl)
def ER (P7 : Int32 → Md → Prop) : Md → Int32 → Int32 → Prop := fun t0 z1 z2 => wp_X7_leftOf (fun r_13 => ((0 < r_13 → wp_X7_takesBack (fun u_17 => P7 (-2) u_17) t0) ∧ (¬ 0 < r_13 → ((z2 ≤ 9999 → wp_X7_takesBack (fun u_20 => P7 z2 u_20) t0) ∧ (¬ z2 ≤ 9999 → wp_X7_takesBack (fun u_22 => P7 (-2) u_22) t0))))) t0 z1
theorem er_end {P7 : Int32 → Md → Prop} {m u v : Md} {z1 z2 : Int32} {R W D : Int} (as : ASD m u) (tg : TG u v) (hf : rw_ok R W D (v.2.2.1 0)) (hD : 0 < D) (hx : 0 ≤ z1.toInt ∧ z1.toInt < R * W) (h : ER P7 v z1 z2) : ∃ m', NB m m' ∧ P7 (if 0 < LE (v.2.2.1 0) z1.toInt.toNat ∨ 9999 < z2.toInt then -2 else z2) m' := by
  have e0 : (0 : Int32).toInt = 0 := rfl
  have e9 : (9999 : Int32).toInt = 9999 := rfl
  unfold ER at h
  obtain ⟨r, h, er⟩ := e7_leftOf hf hD hx.1 hx.2 h
  by_cases c : 0 < r
  · have := q_lt c
    obtain ⟨m', h, tb⟩ := e7_takesBack (h.1 c)
    rw [if_pos (Or.inl (by omega))]
    exact ⟨m', NB_tb as tg tb, h⟩
  · have := q_nlt c
    have h := h.2 c
    by_cases c2 : z2 ≤ 9999
    · have := q_le c2
      obtain ⟨m', h, tb⟩ := e7_takesBack (h.1 c2)
      rw [if_neg (by omega)]
      exact ⟨m', NB_tb as tg tb, h⟩
    · have := q_nle c2
      obtain ⟨m', h, tb⟩ := e7_takesBack (h.2 c2)
      rw [if_pos (Or.inr (by omega))]
      exact ⟨m', NB_tb as tg tb, h⟩
theorem sm_rests_L {P6 : Int32 → Bd → Mo → Prop} {P7 : Int32 → Md → Prop} {s2 : Bd} {m u : Md} {z1 : Int32} {N R W D : Int} (hD : 0 < D) (as : ASD m u) (hx : 0 ≤ z1.toInt ∧ z1.toInt < R * W) : ∀ (n6 n7 : Nat) (b : Bd) (t : Mo) (v : Md) (z2 : Int32), 0 ≤ z2.toInt → z2.toInt ≤ 10000 → TG u v → mb N R W D v → RB b (v.2.2.1 0) → wp_X6_rests_L26 s2 P6 (fun t2 t3 _ _ => P6 (-2) t2 t3) n6 b t z1 z2 → wp_X7_rests_L16 P7 (ER P7) n7 v z1 z2 → ∃ r b t m', P6 r b t ∧ P7 r m' ∧ NB m m' := by
  have e0 : (0 : Int32).toInt = 0 := rfl
  have e1 : (1 : Int32).toInt = 1 := rfl
  have e9 : (9999 : Int32).toInt = 9999 := rfl
  intro n6
  induction n6 with
  | zero =>
    intro n7 b t v z2 _ _ _ _ _ h
    exact (show False from h).elim
  | succ n6 ih =>
    intro n7 b t v z2 h0 h1 tg hM hB h6 h7
    have hf := hM.2.2.2.2.1
    have lb := LE_b hf hD (c := z1.toInt.toNat) (by omega)
    cases n7 with
    | zero => exact (show False from h7).elim
    | succ n7 =>
      unfold wp_X6_rests_L26 at h6
      unfold wp_X7_rests_L16 at h7
      obtain ⟨r, h7, er⟩ := e7_leftOf hf hD hx.1 hx.2 h7
      by_cases c9 : 9999 < z2
      · have := q_lt c9
        have h7 : ER P7 v z1 z2 := by
          by_cases c : r ≤ 0
          · exact h7.1 c
          · exact (h7.2 c).1 c9
        obtain ⟨m', nb, h7⟩ := er_end as tg hf hD hx h7
        rw [if_pos (Or.inr (by omega))] at h7
        exact ⟨_, b, t, m', h6.1 c9, h7, nb⟩
      · have := q_nlt c9
        obtain ⟨r', h6, er'⟩ := e0_leftOf hf hD hB hx.1 hx.2 (h6.2 c9)
        have ee : r' = r := Int32.toInt_inj.mp (er'.trans er.symm)
        subst ee
        by_cases c : r' ≤ 0
        · have := q_le c
          have c0 : r' = 0 := Int32.toInt_inj.mp (by omega)
          obtain ⟨m', nb, h7⟩ := er_end as tg hf hD hx (h7.1 c)
          rw [if_neg (by omega)] at h7
          exact ⟨_, b, t, m', h6.2 c0, h7, nb⟩
        · have := q_nle c
          have c0 : ¬ r' = 0 := fun q => by rw [q, e0] at this; omega
          have h7 := (h7.2 c).2 c9
          obtain ⟨k, t', b', v', r1, r2, r3, r4, r5, r6, r7⟩ := sm_trn hM hD hB (by decide) (by decide) (h6.1 c0)
          rw [e1] at r6 r7
          cases k with
          | zero =>
            obtain ⟨g, ev⟩ := r2
            subst ev
            have idl : IDL (v'.2.2.1 0) R W := by
              rcases r7 with q | q
              · omega
              · exact q
            obtain ⟨w, h7, w2, w3, w4⟩ := e7_idle r4 hD hB idl h7
            have tz : t'.1 2 = 0 := g 2 (by decide) (by decide)
            obtain ⟨m', nb, h7⟩ := er_end as (TG_tr tg w4) w3.2.2.2.2.1 hD hx (h7.1 (by decide))
            rw [w2, if_pos (Or.inl (by omega))] at h7
            exact ⟨_, b', t', m', r1.2 tz, h7, nb⟩
          | succ k =>
            have k0 : k = 0 := by omega
            subst k0
            obtain ⟨v1, rr, fo, g, g2, ev⟩ := r2
            subst ev
            have tz : t'.1 2 = 1 := (g2 2 (by decide) (by decide)).trans rfl
            have h7 := (g.1 _ h7).2 (fun c => by have := q_le c; have := g.2.2.1; omega)
            have s := nw (tq_addr e1 z2) (by omega)
            exact ih n7 b' t' v' (z2 + 1) (by omega) (by omega) (TG_tr tg r5) r4 r3 (r1.1 (by rw [tz]; decide)) h7
theorem sm_rests {P6 : Int32 → Bd → Mo → Prop} {P7 : Int32 → Md → Prop} {s2 s3 : Bd} {s4 : Mo} {m : Md} {x1 : Int32} {N R W D : Int} (hB : RB s2 (m.2.2.1 0)) (hM : mb N R W D m) (hs : R ≤ 0 ∨ 0 < D) (h6 : wp_X6_rests P6 s2 s3 s4 x1) (h7 : wp_X7_rests P7 m x1) : ∃ r b t m', P6 r b t ∧ P7 r m' ∧ NB m m' := by
  have e0 : (0 : Int32).toInt = 0 := rfl
  have hf := hM.2.2.2.2.1
  have hR := hf.2.2.2.2.2.1
  have rc := RB_cells hf hB
  unfold wp_X6_rests at h6
  unfold wp_X7_rests at h7
  rcases e0_hasCell rc.2.2.1 h6 with ⟨h6, g1, g2⟩ | ⟨h6, g⟩
  · rcases e7_isCell hf h7 with ⟨h7, _, _⟩ | ⟨_, g⟩
    · have hD : 0 < D := by omega
      obtain ⟨cp, h6, ag, _⟩ := e0_copyBut (h6.1 (by decide))
      obtain ⟨u, h7, as⟩ := e7_putsAside (h7.1 (by decide))
      have mu := ASD_mb hM hs as
      have u0 : u.2.2.1 0 = m.2.2.1 0 := as.2.2.2.1 0 (by decide)
      obtain ⟨n6, h6⟩ := h6
      obtain ⟨n7, h7⟩ := h7
      exact sm_rests_L hD as ⟨g1, g2⟩ n6 n7 cp s4 u 0 (by decide) (by decide) (TG_rf u) mu (by rw [u0]; exact RB_ag hf ag hB) h6 h7
    · omega
  · rcases e7_isCell hf h7 with ⟨_, _, _⟩ | ⟨h7, _⟩
    · omega
    · exact ⟨_, s3, s4, m, h6.2 rfl, h7.2 rfl, NB_rf m⟩

/-! count. -/
theorem e2_choose0 {P : Mo → Prop} {b : Bd} {t : Mo} (h0 : (b.1 0 * b.1 1).toInt = 0) (h : wp_X2_choose P t b) : ∃ u, P u ∧ u.1 0 = 0 := by
  have e1 : (1 : Int32).toInt = 1 := rfl
  have e0 : (0 : Int32).toInt = 0 := rfl
  unfold wp_X2_choose wp_X2_sortByLeft at h
  have h := cells6_e h
  obtain ⟨n, h⟩ := h
  have s := nw (tq_subr e1 (b.1 0 * b.1 1)) (by omega)
  generalize b.1 0 * b.1 1 - 1 = z at *
  cases n with
  | zero => exact (show False from h).elim
  | succ n =>
    unfold wp_X2_sortByLeft_L17 at h
    obtain ⟨n18, h⟩ := h.1 (Int32.lt_iff_toInt_lt.mpr (by rw [e0]; omega))
    cases n18 with
    | zero => exact (show False from h).elim
    | succ n18 =>
      unfold wp_X2_choose_L18 at h
      exact ⟨_, h.1 (by decide), rfl⟩
theorem e7_finds0 {P : Md → Prop} {s : Md} {R W D : Int} (hf : rw_ok R W D (s.2.2.1 0)) (h0 : R * W = 0) (h : wp_X7_findsTurning P s) : ∃ v, P v ∧ v.1 1 = 0 ∧ v.1 0 = s.1 0 ∧ v.2.2 = s.2.2 := by
  have e0 : (0 : Int32).toInt = 0 := rfl
  have rn := rw_n hf
  unfold wp_X7_findsTurning at h
  obtain ⟨n, h⟩ := h
  cases n with
  | zero => exact (show False from h).elim
  | succ n =>
    unfold wp_X7_findsTurning_L19 at h
    have h := cells7_e h
    exact ⟨_, h.1 (Int32.le_iff_toInt_le.mpr (by rw [e0]; show (Int64.toInt32 (s.2.2.1 0 0) * Int64.toInt32 (s.2.2.1 0 1)).toInt ≤ 0; omega)), rfl, rfl, rfl⟩
theorem sm_turning {P6 : Mo → Prop} {P7 : Md → Prop} {b : Bd} {t : Mo} {m : Md} {N R W D : Int} (hB : RB b (m.2.2.1 0)) (hM : mb N R W D m) (hs : R ≤ 0 ∨ 0 < D) (h6 : wp_X2_choose P6 t b) (h7 : wp_X7_findsTurning P7 m) : ∃ u v, P6 u ∧ P7 v ∧ v.1 1 = u.1 0 ∧ v.1 0 = m.1 0 ∧ v.2.2 = m.2.2 ∧ (0 < D → ∃ T, CHS T u ∧ T = bs_at v.2.1 ∧ (∀ i, T i = true → (i : Int) < R * W) ∧ (u.1 0).toInt ≤ 40) := by
  have hf := hM.2.2.2.2.1
  have hR := hf.2.2.2.2.2.1
  have rc := RB_cells hf hB
  by_cases hD : 0 < D
  · obtain ⟨u, h6, i6, k6, A6, T6, ch, p6, q6⟩ := e2_choose hf hD hB h6
    obtain ⟨w, h7, w1, w2, w3, m7, k7, A7, p7, q7⟩ := e7_finds hf hD hB h7
    obtain ⟨eT, em, ec⟩ := PR_f (fun c hc => (CU_b hf hD hB (c := c) (by omega)).1) p6 q6 p7 q7
    have e1 : w.1 1 = u.1 0 := Int32.toInt_inj.mp (by have := ch.1; omega)
    have hL := hf.2.2.2.2.1
    have pb := PR_b (by omega) p6
    have pc := PR_ct p6
    have cl := ct_le T6 (R * W).toNat
    exact ⟨u, w, h6, h7, e1, w1 0 (by decide), by rw [Prod.ext_iff]; exact ⟨w2, w3⟩, fun _ => ⟨T6, ch, eT, fun i hi => by have := (pb.2.2 i (pb.2.1 i hi)).1; omega, by have := ch.1; omega⟩⟩
  · have hw : R * W = 0 := by
      have : R = 0 := by omega
      rw [this, Int.zero_mul]
    obtain ⟨u, h6, a⟩ := e2_choose0 (by omega) h6
    obtain ⟨w, h7, b1, b2, b3⟩ := e7_finds0 hf hw h7
    exact ⟨u, w, h6, h7, b1.trans a.symm, b2, b3, fun q => (hD q).elim⟩
theorem sm_count {P6 : Int32 → Mo → Pa → Prop} {P7 : Int32 → Md → Prop} {s1 : Tp} {s2 : Bd} {s4 : Mo} {s6 : Pa} {z7 : Nat → Option Bd} {m : Md} {x1 : Int32} {N R W D : Int} (hx : RX s1 m) (hB : RB s2 (m.2.2.1 0)) (hP : RP s6 m) (hS : RSh z7 m) (hM : mb N R W D m) (hs : R ≤ 0 ∨ 0 < D) (h6 : wp_X6_count P6 s1 s2 s4 s6 z7 x1) (h7 : wp_X7_count P7 m x1) : ∃ r t m', P6 r t s6 ∧ P7 r m' ∧ NB m m' := by
  have t2 : Int32.toNatClampNeg 2 = 2 := rfl
  have t0 : Int32.toNatClampNeg 0 = 0 := rfl
  have t1 : Int32.toNatClampNeg 1 = 1 := rfl
  have hb := hB.1
  have fl : ∀ r, P6 r s4 s6 → P7 r m → ∃ r t m', P6 r t s6 ∧ P7 r m' ∧ NB m m' := fun r a b => ⟨r, s4, m, a, b, NB_rf m⟩
  unfold wp_X6_count at h6
  unfold wp_X7_count at h7
  by_cases c0 : x1 = 0
  · have h7 := rows_e (h7.1 c0)
    rw [← hb.1] at h7
    exact fl _ (h6.1 c0) h7
  have h6 := h6.2 c0
  have h7 := h7.2 c0
  by_cases c1 : x1 = 1
  · have h7 := wide_e (h7.1 c1)
    rw [← hb.2.1] at h7
    exact fl _ (h6.1 c1) h7
  have h6 := h6.2 c1
  have h7 := h7.2 c1
  by_cases c2 : x1 = 2
  · have h7 := cells7_e (h7.1 c2)
    rw [← hb.1, ← hb.2.1] at h7
    exact fl _ (cells6_e (h6.1 c2)) h7
  have h6 := h6.2 c2
  have h7 := h7.2 c2
  by_cases c3 : x1 = 3
  · have h7 := h7.1 c3
    rw [t2, ← hb.2.2.1] at h7
    exact fl _ (h6.1 c3) h7
  have h6 := h6.2 c3
  have h7 := h7.2 c3
  by_cases c4 : x1 = 4
  · have h7 := drums_e (h7.1 c4)
    rw [← hb.2.2.2] at h7
    exact fl _ (h6.1 c4) h7
  have h6 := h6.2 c4
  have h7 := h7.2 c4
  by_cases c5 : x1 = 5
  · have h7 := h7.1 c5
    rw [← hP.1] at h7
    exact fl _ (h6.1 c5) h7
  have h6 := h6.2 c5
  have h7 := h7.2 c5
  by_cases c6 : x1 = 6
  · have h7 := h7.1 c6
    rw [← hx.1] at h7
    exact fl _ (h6.1 c6) h7
  have h6 := h6.2 c6
  have h7 := h7.2 c6
  by_cases c7 : x1 = 7
  · have h6 := h6.1 c7
    have h7 := h7.1 c7
    unfold wp_X6_shelvesUsed at h6
    rw [t0, t1] at h6 h7
    rcases hS 0 (by decide) with ⟨a1, a2⟩ | ⟨b, a1, a2, _⟩
    · rcases hS 1 (by decide) with ⟨b1, b2⟩ | ⟨b, b1, b2, _⟩
      · rw [a1, b1] at h6
        exact fl _ h6 ((h7.1 a2).1 b2)
      · rw [a1, b1] at h6
        exact fl _ h6 ((h7.1 a2).2 b2)
    · rcases hS 1 (by decide) with ⟨b1, b2⟩ | ⟨b, b1, b2, _⟩
      · rw [a1, b1] at h6
        exact fl _ h6 ((h7.2 a2).1 b2)
      · rw [a1, b1] at h6
        exact fl _ h6 ((h7.2 a2).2 b2)
  have h6 := h6.2 c7
  have h7 := h7.2 c7
  by_cases c8 : x1 = 8
  · obtain ⟨u, v, h6, h7, e, e2, e3, _⟩ := sm_turning hB hM hs (h6.1 c8) (h7.1 c8)
    rw [e] at h7
    exact ⟨_, u, v, h6, h7, fun i _ => by rw [e3], e2, by rw [e3], by rw [e3], by rw [e3]⟩
  · exact fl _ (h6.2 c8) (h7.2 c8)

/-! How many bits are set: the class's way, which adds in parallel, and one by one. -/
def g1 (b : Nat) : Nat := b - ((b / 2) &&& 85)
def g2 (a : Nat) : Nat := (a &&& 51) + ((a / 4) &&& 51)
def g3 (c : Nat) : Nat := (c + c / 16) % 16
def dg (b : Nat → Nat) : Nat → Nat
  | 0 => 0
  | n + 1 => b 0 + 256 * dg (fun i => b (i + 1)) n

/-! bitCount is bits. -/
def nn (y : Int64) : Nat := y.toUInt64.toNat
def byt (Y : Nat) (i : Nat) : Nat := Y / 2 ^ (8 * i) % 256

/-! bitCount, wear, cell. -/
def w1 (y : Int64) : Int64 := y - ((((y).toUInt64 >>> ((Int32.toInt64 (1 : Int32)).toUInt64 &&& Int64.toUInt64 63)).toInt64) &&& 6148914691236517205)
def w2 (a : Int64) : Int64 := (a &&& 3689348814741910323) + ((((a).toUInt64 >>> ((Int32.toInt64 (2 : Int32)).toUInt64 &&& Int64.toUInt64 63)).toInt64) &&& 3689348814741910323)
def w3 (b : Int64) : Int64 := (b + (((b).toUInt64 >>> ((Int32.toInt64 (4 : Int32)).toUInt64 &&& Int64.toUInt64 63)).toInt64)) &&& 1085102592571150095
def w4 (c : Int64) : Int64 := c + (((c).toUInt64 >>> ((Int32.toInt64 (8 : Int32)).toUInt64 &&& Int64.toUInt64 63)).toInt64)
def w5 (d : Int64) : Int64 := d + (((d).toUInt64 >>> ((Int32.toInt64 (16 : Int32)).toUInt64 &&& Int64.toUInt64 63)).toInt64)
def w6 (e : Int64) : Int64 := e + (((e).toUInt64 >>> ((Int32.toInt64 (32 : Int32)).toUInt64 &&& Int64.toUInt64 63)).toInt64)
