/-! tick, settle, wait: whole turnings on both sides. -/
theorem e7_idle {v : Md} {b : Bd} {P7 : Int32 → Md → Prop} {N R W D : Int} (hM : mb N R W D v) (hD : 0 < D) (hB : RB b (v.2.2.1 0)) (hI : IDL (v.2.2.1 0) R W) (h7 : wp_X7_ticks P7 v) : ∃ v', P7 0 v' ∧ v'.2.2.1 0 = v.2.2.1 0 ∧ mb N R W D v' ∧ TG v v' := by
  have hf := hM.2.2.2.2.1
  have hR := hf.2.2.2.2.2.1
  have e0 : (0 : Int32).toInt = 0 := rfl
  obtain ⟨k6, A6, u6, p6, q6⟩ := hI
  unfold wp_X7_ticks at h7
  have h7 := dt_conj (dt_X7_findsTurning v) h7 (wq_X7_findsTurningB (post := fun u => mb N R W D u) hM hD (fun u a _ _ => a))
  obtain ⟨w, ⟨⟨n7, h7⟩, mw⟩, w1, w2, w3, m7, k7, A7, p7, q7⟩ := e7_finds hf hD hB h7
  obtain ⟨eT, em, ec⟩ := PR_f (fun c hc => (CU_b hf hD hB (c := c) (by omega)).1) p6 q6 p7 q7
  have e1 : w.1 1 = 0 := Int32.toInt_inj.mp (by rw [e0]; omega)
  obtain ⟨v', z', h7, mv, fN, sv⟩ := e7_ticks_L (s := w) (f := v.2.2.1 0) (by rw [w2]) hf hD n7 w 0 mw (FN_rf w) (by decide) (by rw [e0]; omega) (by
    rw [w2]
    exact ⟨fun _ _ _ => rfl, fun c hc => ⟨fun g => (by have := g.2; rw [e0] at this; omega), fun _ _ _ => rfl⟩, ⟨(Int32.add_zero _).symm, (Int32.add_zero _).symm⟩, fun _ => rfl⟩) h7
  rw [← eT] at sv
  have f1 : v'.1 1 = 0 := by rw [fN.1, e1]
  exact ⟨v', h7.2 f1, sv.2.2.2 (fun _ _ => rfl), mv, ⟨by rw [fN.1]; exact w1 0 (by decide), by rw [fN.1]; exact w1 5 (by decide), by rw [fN.1]; exact w1⟩, by rw [fN.2.2.1 1 (by decide), w2], by rw [fN.2.2.1 2 (by decide), w2], by rw [fN.2.2.1 3 (by decide), w2], by rw [fN.2.2.2, w3]⟩
theorem sm_trn {post : Mo → Bd → Prop} {x2 : Int32} {s0 : Mo} {b : Bd} {v : Md} {N R W D : Int} (hM : mb N R W D v) (hD : 0 < D) (hB : RB b (v.2.2.1 0)) (hx : 0 ≤ x2.toInt) (hx2 : x2.toInt ≤ 9999) (h : wp_X2_turn post s0 b x2) : ∃ k t' b' v', post t' b' ∧ TT (fun _ => 0) v t'.1 v' k ∧ RB b' (v'.2.2.1 0) ∧ mb N R W D v' ∧ TG v v' ∧ (k : Int) ≤ x2.toInt ∧ ((k : Int) = x2.toInt ∨ IDL (v'.2.2.1 0) R W) := by
  unfold wp_X2_turn wp_X2_startCounting at h
  obtain ⟨n, h⟩ := h
  have e0 : (0 : Int32).toInt = 0 := rfl
  obtain ⟨k, t', b', v', r1, r2, r3, r4, r5, r6, r7⟩ := sm_trn_L hD hx2 n _ b v 0 hM hB (by decide) (by rw [e0]; exact hx) h
  rw [e0] at r6 r7
  refine ⟨k, t', b', v', r1, TT_c (fun i h1 h2 => ?_) r2, r3, r4, r5, by omega, ?_⟩
  · rcases (show i = 2 ∨ i = 3 ∨ i = 4 ∨ i = 5 ∨ i = 6 ∨ i = 7 ∨ i = 8 by omega) with rfl | rfl | rfl | rfl | rfl | rfl | rfl <;> rfl
  · rcases r7 with r7 | r7
    · exact Or.inl (by omega)
    · exact Or.inr r7
/-- settled: a bound of 9999 is never met -/
theorem sm_trnS {post : Mo → Bd → Prop} {s0 : Mo} {b : Bd} {v : Md} {N R W D : Int} (hM : mb N R W D v) (hD : 0 < D) (hB : RB b (v.2.2.1 0)) (h : wp_X2_turn post s0 b (9999 : Int32)) : ∃ k t' b' v', post t' b' ∧ TT (fun _ => 0) v t'.1 v' k ∧ RB b' (v'.2.2.1 0) ∧ mb N R W D v' ∧ TG v v' ∧ (k : Int) ≤ 3560 ∧ IDL (v'.2.2.1 0) R W := by
  have e9 : (9999 : Int32).toInt = 9999 := rfl
  obtain ⟨k, t', b', v', r1, r2, r3, r4, r5, r6, r7⟩ := sm_trn hM hD hB (by decide) (by decide) h
  have m1 := mu_b hM.2.2.2.2.1 hD 40 (by decide)
  have m2 := mu_b r4.2.2.2.2.1 hD 40 (by decide)
  have m3 := TT_mu r2
  refine ⟨k, t', b', v', r1, r2, r3, r4, r5, by omega, ?_⟩
  rcases r7 with r7 | r7
  · rw [e9] at r7
    omega
  · exact r7
theorem e7_tick_i {post : Int32 → Md → Prop} {b : Bd} {z1 z2 : Int32} {N R W D : Int} (hD : 0 < D) : ∀ (n : Nat) (v : Md) (z3 : Int32), mb N R W D v → RB b (v.2.2.1 0) → IDL (v.2.2.1 0) R W → wp_X7_tick_L29 post (fun t0 z1 z2 z3 => post z2 t0) n v z1 z2 z3 → ∃ v', post z2 v' ∧ v'.2.2.1 0 = v.2.2.1 0 ∧ mb N R W D v' ∧ TG v v' := by
  intro n
  induction n with
  | zero =>
    intro v z3 _ _ _ h
    exact (show False from h).elim
  | succ n ih =>
    intro v z3 hM hB hI h
    unfold wp_X7_tick_L29 at h
    by_cases c : z1 ≤ z3
    · exact ⟨v, h.1 c, rfl, hM, TG_rf v⟩
    · obtain ⟨v1, h, a1, a2, a3⟩ := e7_idle hM hD hB hI (h.2 c)
      rw [Int32.add_zero] at h
      obtain ⟨v', r1, r2, r3, r4⟩ := ih v1 (z3 + 1) a2 (by rw [a1]; exact hB) (by rw [a1]; exact hI) h
      exact ⟨v', r1, r2.trans a1, r3, TG_tr a3 r4⟩
theorem e7_tick_t {post : Int32 → Md → Prop} {e : Md → Int32 → Int32 → Int32 → Prop} {z1 : Int32} (hz : z1.toInt ≤ 9999) {a a' : Nat → Int32} {v v' : Md} {k : Nat} (ht : TT a v a' v' k) : ∀ (n : Nat) (z3 : Int32), 0 ≤ z3.toInt → z3.toInt + (k : Int) ≤ z1.toInt → wp_X7_tick_L29 post e n v z1 (a 3) z3 → ∃ n' z3', z3'.toInt = z3.toInt + (k : Int) ∧ wp_X7_tick_L29 post e n' v' z1 (a' 3) z3' := by
  have e1 : (1 : Int32).toInt = 1 := rfl
  refine TT_ind (M := fun a v a' v' k => ∀ (n : Nat) (z3 : Int32), 0 ≤ z3.toInt → z3.toInt + (k : Int) ≤ z1.toInt → wp_X7_tick_L29 post e n v z1 (a 3) z3 → ∃ n' z3', z3'.toInt = z3.toInt + (k : Int) ∧ wp_X7_tick_L29 post e n' v' z1 (a' 3) z3') (fun a a' v g => ?_) (fun a a' v v1 v' r fo k g t ih => ?_) k ht
  · intro n z3 _ _ h
    rw [g 3 (by decide) (by decide)]
    exact ⟨n, z3, by omega, h⟩
  · intro n z3 h0 h1 h
    cases n with
    | zero => exact (show False from h).elim
    | succ n =>
      unfold wp_X7_tick_L29 at h
      have s := nw (tq_addr e1 z3) (by omega)
      have h := g.1 _ (h.2 (fun c => by have := q_le c; omega))
      obtain ⟨n', z', r1, r2⟩ := ih n (z3 + 1) (by omega) (by omega) h
      exact ⟨n', z', by omega, r2⟩
theorem sm_tick {P6 : Int32 → Bd → Mo → Pa → Prop} {P7 : Int32 → Md → Prop} {s6 : Pa} {s2 : Bd} {s4 : Mo} {m : Md} {x1 : Int32} {N R W D : Int} (hp : pa s6) (hP : RP s6 m) (hB : RB s2 (m.2.2.1 0)) (hM : mb N R W D m) (hs : R ≤ 0 ∨ 0 < D) (h6 : wp_X6_tick P6 s2 s4 s6 x1) (h7 : wp_X7_tick P7 m x1) : ∃ r b t p m', P6 r b t p ∧ P7 r m' ∧ AR m m' b p := by
  have e0 : (0 : Int32).toInt = 0 := rfl
  have e1 : (1 : Int32).toInt = 1 := rfl
  have e99 : (99 : Int32).toInt = 99 := rfl
  have hf := hM.2.2.2.2.1
  have hR := hf.2.2.2.2.2.1
  have rc := RB_cells hf hB
  have fl : ∀ r, P6 r s2 s4 s6 → P7 r m → ∃ r b t p m', P6 r b t p ∧ P7 r m' ∧ AR m m' b p := fun r a b => ⟨r, s2, s4, s6, m, a, b, hB, hP, rfl, rfl⟩
  unfold wp_X6_tick at h6
  unfold wp_X7_tick at h7
  rcases e0_isThere h6 with ⟨h6, g⟩ | ⟨h6, g⟩
  · rcases e7_isBoard hf h7 with ⟨h7, hD⟩ | ⟨_, gD⟩
    · have h6 := h6.2 (by decide)
      rcases e7_inC (i := 1) (j := 99) rfl rfl (h7.2 (by decide)) with ⟨h7, j1, j2⟩ | ⟨h7, j⟩
      · have h6 := (h6.2 (fun c => by have := q_lt c; omega)).1 (Int32.le_iff_toInt_le.mpr (by omega))
        obtain ⟨p, u, h6, h7, q1, q2, q3, q4, q5, q6⟩ := sm_push hp hP hB hM hs h6 (h7.1 (by decide))
        have u0 : u.2.2.1 0 = m.2.2.1 0 := q6 0 (by decide)
        obtain ⟨n, h7⟩ := h7
        obtain ⟨k, t', b', v', r1, r2, r3, r4, r5, r6, r7⟩ := sm_trn q2 hD (by rw [u0]; exact hB) (by omega) (by omega) h6
        obtain ⟨n', z3, y1, y2⟩ := e7_tick_t (z1 := x1) (by omega) r2 n 0 (by decide) (by rw [e0]; omega) h7
        rw [e0] at y1
        have fin : ∀ w : Md, P7 (t'.1 3) w → w.2.2.1 0 = v'.2.2.1 0 → TG v' w → ∃ r b t p m', P6 r b t p ∧ P7 r m' ∧ AR m m' b p := fun w a b c => by
          have tg := TG_tr r5 c
          exact ⟨_, b', t', p, w, r1, a, by rw [b]; exact r3, RP_k q1 tg.1.1 tg.2.1, by rw [tg.2.2.2.2, q5], tg.2.2.1.trans (q6 2 (by decide))⟩
        rcases r7 with r7 | r7
        · cases n' with
          | zero => exact (show False from y2).elim
          | succ n' =>
            unfold wp_X7_tick_L29 at y2
            exact fin v' (y2.1 (Int32.le_iff_toInt_le.mpr (by omega))) rfl (TG_rf v')
        · obtain ⟨w, w1, w2, w3, w4⟩ := e7_tick_i (b := b') hD n' v' z3 r4 r3 r7 y2
          exact fin w w1 w2 w4
      · by_cases c : x1 < 1
        · exact fl _ (h6.1 c) (h7.2 rfl)
        · have := q_nlt c
          exact fl _ ((h6.2 c).2 (fun c => by have := q_le c; omega)) (h7.2 rfl)
    · omega
  · rcases e7_isBoard hf h7 with ⟨_, hD⟩ | ⟨h7, _⟩
    · omega
    · exact fl _ (h6.1 rfl) (h7.1 rfl)
theorem e7_settles_t {post : Int32 → Md → Prop} {e : Md → Int32 → Prop} {a a' : Nat → Int32} {v v' : Md} {k : Nat} (ht : TT a v a' v' k) : ∀ (n : Nat), wp_X7_settles_L2 post e n v (a 2) → ∃ n', wp_X7_settles_L2 post e n' v' (a' 2) := by
  have e0 : (0 : Int32).toInt = 0 := rfl
  refine TT_ind (M := fun a v a' v' k => ∀ (n : Nat), wp_X7_settles_L2 post e n v (a 2) → ∃ n', wp_X7_settles_L2 post e n' v' (a' 2)) (fun a a' v g => ?_) (fun a a' v v1 v' r fo k g t ih => ?_) k ht
  · intro n h
    rw [g 2 (by decide) (by decide)]
    exact ⟨n, h⟩
  · intro n h
    cases n with
    | zero => exact (show False from h).elim
    | succ n =>
      unfold wp_X7_settles_L2 at h
      have h := (g.1 _ h).2 (fun c => by have := q_le c; have := g.2.2.1; omega)
      exact ih n h
theorem sm_settles {P6 : Mo → Bd → Prop} {P7 : Int32 → Md → Prop} {b : Bd} {s4 : Mo} {v : Md} {N R W D : Int} (hM : mb N R W D v) (hD : 0 < D) (hB : RB b (v.2.2.1 0)) (h6 : wp_X2_turn P6 s4 b (9999 : Int32)) (h7 : wp_X7_settles P7 v) : ∃ t' b' v', P6 t' b' ∧ P7 (t'.1 2) v' ∧ RB b' (v'.2.2.1 0) ∧ mb N R W D v' ∧ TG v v' := by
  obtain ⟨k, t', b', v', r1, r2, r3, r4, r5, r6, r7⟩ := sm_trnS hM hD hB h6
  unfold wp_X7_settles at h7
  obtain ⟨n, h7⟩ := h7
  obtain ⟨n', h7⟩ := e7_settles_t r2 n h7
  cases n' with
  | zero => exact (show False from h7).elim
  | succ n' =>
    unfold wp_X7_settles_L2 at h7
    obtain ⟨w, w1, w2, w3, w4⟩ := e7_idle r4 hD r3 r7 h7
    exact ⟨t', b', w, r1, w1.1 (by decide), by rw [w2]; exact r3, w3, TG_tr r5 w4⟩
theorem sm_settle {P6 : Int32 → Bd → Mo → Pa → Prop} {P7 : Int32 → Md → Prop} {s6 : Pa} {s2 : Bd} {s4 : Mo} {m : Md} {N R W D : Int} (hp : pa s6) (hP : RP s6 m) (hB : RB s2 (m.2.2.1 0)) (hM : mb N R W D m) (hs : R ≤ 0 ∨ 0 < D) (h6 : wp_X6_settle P6 s2 s4 s6) (h7 : wp_X7_settle P7 m) : ∃ r b t p m', P6 r b t p ∧ P7 r m' ∧ AR m m' b p := by
  have e0 : (0 : Int32).toInt = 0 := rfl
  have hf := hM.2.2.2.2.1
  have hR := hf.2.2.2.2.2.1
  have rc := RB_cells hf hB
  unfold wp_X6_settle at h6
  unfold wp_X7_settle at h7
  rcases e0_isThere h6 with ⟨h6, g⟩ | ⟨h6, g⟩
  · rcases e7_isBoard hf h7 with ⟨h7, hD⟩ | ⟨_, gD⟩
    · have h6 := h6.1 (by decide)
      have h7 := h7.1 (by decide)
      obtain ⟨u, h6, i6, k6, A6, T6, ch, p6, q6⟩ := e2_choose hf hD hB h6
      have h7 := dt_conj (dt_X7_findsTurning m) h7 (wq_X7_findsTurningB (post := fun u => mb N R W D u) hM hD (fun u a _ _ => a))
      obtain ⟨w, ⟨h7, mw⟩, w1, w2, w3, m7, k7, A7, p7, q7⟩ := e7_finds hf hD hB h7
      obtain ⟨eT, em, ec⟩ := PR_f (fun c hc => (CU_b hf hD hB (c := c) (by omega)).1) p6 q6 p7 q7
      have e1 : w.1 1 = u.1 0 := Int32.toInt_inj.mp (by have := ch.1; omega)
      rw [e1] at h7
      have hP1 : RP s6 w := RP_k hP (w1 0 (by decide)) (by rw [w2])
      by_cases c : u.1 0 = 0
      · exact ⟨_, s2, u, s6, w, h6.2 c, h7.2 c, by rw [w2]; exact hB, hP1, by rw [w3], by rw [w2]⟩
      · obtain ⟨p, x, h6, h7, q1, q2, q3, q4, q5, q6⟩ := sm_push hp hP1 (by rw [w2]; exact hB) mw hs (h6.1 c) (h7.1 c)
        have u0 : x.2.2.1 0 = m.2.2.1 0 := by rw [q6 0 (by decide), w2]
        obtain ⟨t', b', v', r1, r2, r3, r4, r5⟩ := sm_settles q2 hD (by rw [u0]; exact hB) h6 h7
        exact ⟨_, b', t', p, v', r1, r2, r3, RP_k q1 r5.1.1 r5.2.1, by rw [r5.2.2.2.2, q5, w3], r5.2.2.1.trans ((q6 2 (by decide)).trans (by rw [w2]))⟩
    · omega
  · rcases e7_isBoard hf h7 with ⟨_, hD⟩ | ⟨h7, _⟩
    · omega
    · exact ⟨_, s2, s4, s6, m, h6.2 rfl, h7.2 rfl, hB, hP, rfl, rfl⟩
