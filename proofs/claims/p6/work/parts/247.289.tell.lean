/-! The head of a board's text; telling a board. -/
def Z6 (b : Bd) : Prop := (b.1 0 = 0 ∧ b.1 1 = 0 ∧ b.1 2 = 0 ∧ b.1 3 = 0) ∧ ∀ c : Nat, c < 40 → (∀ j : Nat, j < 7 → b.2.1 (3 + j) c = 0) ∧ b.2.2.1 c = 0
theorem e0_clear_L {P : Bd → Prop} : ∀ (n : Nat) (s : Bd) (z : Int32), 0 ≤ z.toInt → z.toInt ≤ 40 → (s.1 0 = 0 ∧ s.1 1 = 0 ∧ s.1 2 = 0 ∧ s.1 3 = 0) → (∀ c : Nat, (c : Int) < z.toInt → (∀ j : Nat, j < 7 → s.2.1 (3 + j) c = 0) ∧ s.2.2.1 c = 0) → wp_X0_clear_L32 P (fun t0 z1 => P t0) n s z → ∃ u, P u ∧ Z6 u := by
  have e1 : (1 : Int32).toInt = 1 := rfl
  have e40 : (40 : Int32).toInt = 40 := rfl
  intro n
  induction n with
  | zero =>
    intro s z _ _ _ _ h
    exact (show False from h).elim
  | succ n ih =>
    intro s z h0 h1 hi hc h
    unfold wp_X0_clear_L32 at h
    by_cases c : 40 ≤ z
    · have := q_le c
      exact ⟨s, h.1 c, hi, fun k hk => hc k (by omega)⟩
    · have c1 := q_nle c
      have a := nw (tq_addr e1 z) (by omega)
      have h := h.2 c
      unfold wp_X0_makeCell at h
      have h := h.2.2.2.2.2.2.2.2
      refine ih _ (z + 1) (by omega) (by omega) ?_ ?_ h
      · exact hi
      intro k hk
      have tz : Int32.toNatClampNeg z = z.toInt.toNat := rfl
      by_cases g : k = z.toInt.toNat
      · subst g
        refine ⟨fun j hj => ?_, uL_e⟩
        rcases (show j = 0 ∨ j = 1 ∨ j = 2 ∨ j = 3 ∨ j = 4 ∨ j = 5 ∨ j = 6 by omega) with rfl | rfl | rfl | rfl | rfl | rfl | rfl
        · exact up_e
        · exact up_e
        · exact up_e
        · exact up_e
        · exact up_e
        · exact up_e
        · exact up_e
      · obtain ⟨q1, q2⟩ := hc k (by omega)
        refine ⟨fun j hj => ?_, (uL_n g).trans q2⟩
        have q1 := q1 j hj
        rcases (show j = 0 ∨ j = 1 ∨ j = 2 ∨ j = 3 ∨ j = 4 ∨ j = 5 ∨ j = 6 by omega) with rfl | rfl | rfl | rfl | rfl | rfl | rfl
        · exact (up_n g).trans q1
        · exact (up_n g).trans q1
        · exact (up_n g).trans q1
        · exact (up_n g).trans q1
        · exact (up_n g).trans q1
        · exact (up_n g).trans q1
        · exact (up_n g).trans q1
theorem e0_clear {P : Bd → Prop} {s : Bd} (h : wp_X0_clear P s) : ∃ u, P u ∧ Z6 u := by
  unfold wp_X0_clear at h
  obtain ⟨n, h⟩ := h
  have e0 : (0 : Int32).toInt = 0 := rfl
  exact e0_clear_L n _ 0 (by decide) (by decide) ⟨rfl, rfl, rfl, rfl⟩ (fun c hc => by omega) h
/-- all of a text that is a board's, from the head on -/
theorem sm_headB {P6 : Bd → Tp → Prop} {P7 : Int32 → Md → Prop} {b : Bd} {u : Tp} {v x : Md} {N : Int} {r1 r2 : Int32} (hZ : Z6 b) (hM : mb N 0 0 0 x) (hx0 : ∀ i : Nat, i < 6896 → x.2.2.1 0 i = 0) (fx : v.2.2.2 = x.2.2.2 ∧ v.1 5 = x.1 5 ∧ v.1 0 = x.1 0 ∧ (∀ k, ¬ k = 0 → v.2.2.1 k = x.2.2.1 k)) (frow : v.2.2.1 0 = vp_updL (vp_updL (x.2.2.1 0) 0 (Int32.toInt64 r1)) 1 (Int32.toInt64 r2)) (hr1 : 1 ≤ r1.toInt ∧ r1.toInt ≤ 6) (hr2 : 1 ≤ r2.toInt ∧ r2.toInt ≤ 10) (hrr : r1.toInt * r2.toInt ≤ 40) (hR : RT u v) (h6 : wp_X5_takeThisWord (fun u_19 => wp_X5_takeNumber (fun r_20 u_21 => wp_X5_isSound (fun r_22 => ((r_22 = 0 → (∃ n15, wp_X1_readInto_L15 P6 (fun t0 t1 z2 => E6 P6 t0 t1) n15 b u_21 0)) ∧ (¬ r_22 = 0 → (∃ n15, wp_X1_readInto_L15 P6 (fun t0 t1 z2 => E6 P6 t0 t1) n15 ((va_up (va_up (va_up b.1 0 r1) 1 r2) 2 r_20), b.2.1, b.2.2.1, b.2.2.2.1, b.2.2.2.2) u_21 0)))) u_21) u_19 (1 : Int32) (99 : Int32)) u (2 : Int32)) (h7 : wp_X7_mustWord (fun r_14 u_15 => ((r_14 = 0 → P7 0 u_15) ∧ (¬ r_14 = 0 → wp_X7_readsNumber (fun r_17 u_18 => ((¬ r_17 = 0 → (∃ n116, wp_X7_readsBoard_L116 P7 (fun t0 => P7 0 t0) (fun t0 => E7 P7 t0) n116 (u_18.1, u_18.2.1, (va_up u_18.2.2.1 0 (vp_updL (u_18.2.2.1 0) (Int32.toNatClampNeg 2) (Int32.toInt64 (u_18.1 8)))), u_18.2.2.2))) ∧ (r_17 = 0 → P7 0 u_18))) u_15 (1 : Int32) (99 : Int32)))) v 1) : ∃ b' t' r v', P6 b' t' ∧ P7 r v' ∧ OUTB b' t' r v' := by
  have e1 : (1 : Int32).toInt = 1 := rfl
  have e99 : (99 : Int32).toInt = 99 := rfl
  obtain ⟨u1, r, v1, a1, a2, a3, a4⟩ := sm_thisWord (i := 1) (by decide) rfl hR h6 h7
  rcases a4 with ⟨rfl, a4⟩ | ⟨rfl, a4⟩
  · obtain ⟨r3, u2, r9, v2, b1, b2, b3, b4⟩ := sm_number a4 (by decide) (by decide) a1 (a2.2 (by decide))
    have fr := FR_tr a3 b3
    have fv : v2.2 = v.2 := fr.2.2.2
    rcases b4 with ⟨rfl, b4, b5, b6, b7, _⟩ | ⟨rfl, b4⟩
    · obtain ⟨n6, k6⟩ := ((e5_isSound b1).1 b4.2.2.2.2).2 (by decide)
      obtain ⟨n7, k7⟩ := b2.1 (by decide)
      rw [← b5] at k7
      rw [e1] at b6
      rw [e99] at b7
      have t2 : Int32.toNatClampNeg 2 = 2 := rfl
      rw [t2] at k7
      obtain ⟨y, hy⟩ : ∃ y : Md, y = (v2.1, v2.2.1, (va_up v2.2.2.1 0 (vp_updL (v2.2.2.1 0) 2 (Int32.toInt64 r3))), v2.2.2.2) := ⟨_, rfl⟩
      rw [← hy] at k7
      have fn : FN v2 y := by rw [hy]; exact FN_up v2 _
      have row : y.2.2.1 0 = vp_updL (vp_updL (vp_updL (x.2.2.1 0) 0 (Int32.toInt64 r1)) 1 (Int32.toInt64 r2)) 2 (Int32.toInt64 r3) := by
        rw [hy]
        show vp_updL (v2.2.2.1 0) 2 (Int32.toInt64 r3) = _
        rw [fv, frow]
      have y0 : y.2.2.1 0 0 = Int32.toInt64 r1 := by rw [row, uL_n (by decide), uL_n (by decide), uL_e]
      have y1 : y.2.2.1 0 1 = Int32.toInt64 r2 := by rw [row, uL_n (by decide), uL_e]
      have y2 : y.2.2.1 0 2 = Int32.toInt64 r3 := by rw [row, uL_e]
      have yz : ∀ i : Nat, 3 ≤ i → i < 6896 → y.2.2.1 0 i = 0 := fun i g1 g2 => by
        rw [row, uL_n (by omega), uL_n (by omega), uL_n (by omega)]
        exact hx0 i g2
      have z0 : (0 : Int64).toInt = 0 := rfl
      have cz : ∀ c j : Nat, c < 40 → j < 8 → c_f (y.2.2.1 0) c j = 0 := fun c j g1 g2 => by
        unfold c_f
        rw [yz _ (by omega) (by omega)]
        rfl
      have rr0 : 0 ≤ r1.toInt * r2.toInt := Int.mul_nonneg (by omega) (by omega)
      have rw0 : rw_ok r1.toInt r2.toInt 0 (y.2.2.1 0) := by
        refine ⟨by rw [y0, tq_64], by rw [y1, tq_64], by rw [yz 3 (by decide) (by decide)]; rfl, Or.inl (by omega), by rw [y2, tq_64]; omega, by omega, fun d hd => by omega, fun c hc => ?_⟩
        unfold rw_c
        rw [cz c 0 hc (by decide), cz c 1 hc (by decide), cz c 2 hc (by decide), cz c 3 hc (by decide), cz c 4 hc (by decide)]
        refine ⟨by omega, fun _ => by omega, fun g => by omega⟩
      have m2 : v2.1 5 = v.1 5 := fr.2.2.1 5 (by decide)
      have m0 : v2.1 0 = v.1 0 := fr.2.2.1 0 (by decide)
      have mby : mb N r1.toInt r2.toInt 0 y := by
        refine mb_row hM ?_ ?_ (fun k hk => ?_) ?_ rw0
        · rw [fn.1, m2, fx.2.1]
        · rw [fn.1, m0, fx.2.2.1]
        · rw [fn.2.2.1 k hk, fv, fx.2.2.2 k hk]
        · rw [fn.2.2.2, fv, fx.1]
      have rb : RB ((va_up (va_up (va_up b.1 0 r1) 1 r2) 2 r3), b.2.1, b.2.2.1, b.2.2.2.1, b.2.2.2.2) (y.2.2.1 0) := by
        obtain ⟨⟨q0, q1, q2, q3⟩, q4⟩ := hZ
        refine ⟨⟨?_, ?_, ?_, ?_⟩, ⟨⟨by rw [yz 3 (by decide) (by decide)]; decide, Or.inr (by rw [y1, tq_64]; omega)⟩, fun d hd => ?_⟩, fun c hc => ?_⟩
        · rw [y0, t32_64]
          rfl
        · rw [y1, t32_64]
          rfl
        · rw [y2, t32_64]
          rfl
        · rw [yz 3 (by decide) (by decide)]
          exact q3
        · rw [yz 3 (by decide) (by decide), z0] at hd
          omega
        · rw [y0, y1, tq_64, tq_64] at hc
          obtain ⟨p1, p2⟩ := q4 c (by omega)
          refine ⟨fun j hj => ?_, ?_⟩
          · rw [yz _ (by omega) (by omega)]
            exact p1 j hj
          · rw [yz _ (by omega) (by omega)]
            exact ⟨p2, bs_0 0⟩
      have bR := (RT_fn b4 fn).2.2
      exact sm_board_L (by omega) n6 n7 _ u2 y 0 0 (RT_fn b4 fn) rb mby (by rw [y2, tq_64]; omega) (by decide) (by show (0 : Int) ≤ _; omega) k6 k7
    · obtain ⟨n6, k6⟩ := (fa_sound b4 b1).1 rfl
      exact ⟨b, u2, 0, v2, fa_L15 b4 k6, b2.2 rfl, Or.inr ⟨rfl, b4⟩⟩
  · obtain ⟨r3, u2, b1, b4⟩ := fa_num a4 a1
    obtain ⟨n6, k6⟩ := (fa_sound b4 b1).1 rfl
    exact ⟨b, u2, 0, v1, fa_L15 b4 k6, a2.1 rfl, Or.inr ⟨rfl, b4⟩⟩
theorem fa_headB {P6 : Bd → Tp → Prop} {b b2 : Bd → Int32 → Bd} {b0 : Bd} {u : Tp} {v : Md} (hf : FL u v) (h6 : wp_X5_takeThisWord (fun u_19 => wp_X5_takeNumber (fun r_20 u_21 => wp_X5_isSound (fun r_22 => ((r_22 = 0 → (∃ n15, wp_X1_readInto_L15 P6 (fun t0 t1 z2 => E6 P6 t0 t1) n15 b0 u_21 0)) ∧ (¬ r_22 = 0 → (∃ n15, wp_X1_readInto_L15 P6 (fun t0 t1 z2 => E6 P6 t0 t1) n15 (b b0 r_20) u_21 0)))) u_21) u_19 (1 : Int32) (99 : Int32)) u (2 : Int32)) : ∃ t', P6 b0 t' ∧ FL t' v := by
  obtain ⟨u1, a1, a2⟩ := fa_word hf h6
  obtain ⟨r3, u2, b1, b4⟩ := fa_num a2 a1
  obtain ⟨n6, k6⟩ := (fa_sound b4 b1).1 rfl
  exact ⟨u2, fa_L15 b4 k6, b4⟩
theorem d40x : ∀ k : Nat, k < 7 → 1 ≤ k → ((40 : Int32) / nI k).toInt = ((40 / k : Nat) : Int) := by decide +kernel
theorem d40 (k : Nat) (h1 : 1 ≤ k) (h2 : k ≤ 6) : ((40 : Int32) / nI k).toInt = ((40 / k : Nat) : Int) := d40x k (by omega) h1
theorem sm_board {P6 : Bd → Tp → Prop} {P7 : Int32 → Md → Prop} {b : Bd} {t : Tp} {s : Md} {N : Int} (hZ : Z6 b) (hM : mb N 0 0 0 s) (hs0 : ∀ i : Nat, i < 6896 → s.2.2.1 0 i = 0) (hR : RT t ((va_up s.1 6 0), s.2.1, s.2.2.1, s.2.2.2)) (h6 : wp_X1_readHead (fun u_6a u_6b => (∃ n15, wp_X1_readInto_L15 P6 (fun t0 t1 z2 => E6 P6 t0 t1) n15 u_6a u_6b 0)) b t) (h7 : wp_X7_readsBoard P7 s) : ∃ b' t' r v', P6 b' t' ∧ P7 r v' ∧ OUTB b' t' r v' := by
  have e1 : (1 : Int32).toInt = 1 := rfl
  have e6 : (6 : Int32).toInt = 6 := rfl
  have e0 : (0 : Int32).toInt = 0 := rfl
  have e10 : (10 : Int32).toInt = 10 := rfl
  unfold wp_X1_readHead at h6
  unfold wp_X7_readsBoard at h7
  obtain ⟨u1, r, v1, a1, a2, a3, a4⟩ := sm_thisWord (i := 0) (by decide) rfl hR h6 h7
  have fault : ∀ {t1 : Tp} {v1 : Md} {r : Int32}, FL t1 v1 → ((r ≤ 0 → wp_X5_takeNumber (fun r_6 u_7 => wp_X5_takeThisWord (fun u_9 => wp_X5_takeNumber (fun r_10 u_11 => wp_X5_isSound (fun r_12 => ((r_12 = 0 → (∃ n15, wp_X1_readInto_L15 P6 (fun t0 t1 z2 => E6 P6 t0 t1) n15 b u_11 0)) ∧ (¬ r_12 = 0 → (∃ n15, wp_X1_readInto_L15 P6 (fun t0 t1 z2 => E6 P6 t0 t1) n15 ((va_up (va_up (va_up b.1 0 r) 1 r_6) 2 r_10), b.2.1, b.2.2.1, b.2.2.2.1, b.2.2.2.2) u_11 0)))) u_11) u_9 (1 : Int32) (99 : Int32)) u_7 (2 : Int32)) t1 (1 : Int32) (0 : Int32)) ∧ (¬ r ≤ 0 → ¬ r = 0 ∧ wp_X5_takeNumber (fun r_16 u_17 => wp_X5_takeThisWord (fun u_19 => wp_X5_takeNumber (fun r_20 u_21 => wp_X5_isSound (fun r_22 => ((r_22 = 0 → (∃ n15, wp_X1_readInto_L15 P6 (fun t0 t1 z2 => E6 P6 t0 t1) n15 b u_21 0)) ∧ (¬ r_22 = 0 → (∃ n15, wp_X1_readInto_L15 P6 (fun t0 t1 z2 => E6 P6 t0 t1) n15 ((va_up (va_up (va_up b.1 0 r) 1 r_16) 2 r_20), b.2.1, b.2.2.1, b.2.2.2.1, b.2.2.2.2) u_21 0)))) u_21) u_19 (1 : Int32) (99 : Int32)) u_17 (2 : Int32)) t1 (1 : Int32) (if (40 / r) < (10 : Int32) then (40 / r) else (10 : Int32)))) → ∃ t', P6 b t' ∧ FL t' v1 := by
    intro t1 v1 r hf h
    by_cases c : r ≤ 0
    · obtain ⟨r2, u2, b1, b4⟩ := fa_num hf (h.1 c)
      exact fa_headB (b := fun b r3 => ((va_up (va_up (va_up b.1 0 r) 1 r2) 2 r3), b.2.1, b.2.2.1, b.2.2.2.1, b.2.2.2.2)) (b2 := fun b _ => b) b4 b1
    · obtain ⟨r2, u2, b1, b4⟩ := fa_num hf (h.2 c).2
      exact fa_headB (b := fun b r3 => ((va_up (va_up (va_up b.1 0 r) 1 r2) 2 r3), b.2.1, b.2.2.1, b.2.2.2.1, b.2.2.2.2)) (b2 := fun b _ => b) b4 b1
  rcases a4 with ⟨rfl, a4⟩ | ⟨rfl, a4⟩
  · obtain ⟨r1, u2, r9, v2, b1, b2, b3, b4⟩ := sm_number a4 (by decide) (by decide) a1 (a2.2 (by decide))
    have fr := FR_tr a3 b3
    have fv : v2.2 = s.2 := fr.2.2.2
    have f5 : v2.1 5 = s.1 5 := fr.2.2.1 5 (by decide)
    have f0 : v2.1 0 = s.1 0 := fr.2.2.1 0 (by decide)
    rcases b4 with ⟨rfl, b4, b5, b6, b7, _⟩ | ⟨rfl, b4⟩
    · rw [e1] at b6
      rw [e6] at b7
      have k6 := (b1.2 (fun g => by have := q_le g; omega)).2
      have k7 := b2.1 (by decide)
      rw [← b5] at k7
      have t0 : Int32.toNatClampNeg 0 = 0 := rfl
      have t1 : Int32.toNatClampNeg 1 = 1 := rfl
      rw [t0, t1] at k7
      obtain ⟨x, hx⟩ : ∃ x : Md, x = (v2.1, v2.2.1, (va_up v2.2.2.1 0 (vp_updL (v2.2.2.1 0) 0 (Int32.toInt64 r1))), v2.2.2.2) := ⟨_, rfl⟩
      rw [← hx] at k7
      have fn : FN v2 x := by rw [hx]; exact FN_up v2 _
      have x0 : x.2.2.1 0 = vp_updL (s.2.2.1 0) 0 (Int32.toInt64 r1) := by
        rw [hx]
        show vp_updL (v2.2.2.1 0) 0 (Int32.toInt64 r1) = _
        rw [fv]
      have rr : Int64.toInt32 (x.2.2.1 0 0) = r1 := by rw [x0, uL_e, t32_64]
      have k7 := rows_e k7
      rw [rr] at k7
      have k7 := k7.2
      have bR := RT_fn b4 fn
      have dv := d40 r1.toInt.toNat (by omega) (by omega)
      rw [nI_tn (by omega)] at dv
      have pr : ∀ r2 : Int32, 1 ≤ r2.toInt → r2.toInt ≤ (40 / r1).toInt → r1.toInt * r2.toInt ≤ 40 := fun r2 g1 g2 => by
        rcases (show r1.toInt = 1 ∨ r1.toInt = 2 ∨ r1.toInt = 3 ∨ r1.toInt = 4 ∨ r1.toInt = 5 ∨ r1.toInt = 6 by omega) with q | q | q | q | q | q <;> (rw [q] at dv ⊢; rw [dv] at g2; have g2 : r2.toInt ≤ _ := g2; simp at g2; omega)
      have go : ∀ {hi : Int32} {r2 : Int32} {u3 : Tp} {v3 : Md}, FR u2 u3 x v3 → RT u3 v3 → r2 = v3.1 8 → 1 ≤ r2.toInt → r2.toInt ≤ 10 → r2.toInt ≤ (40 / r1).toInt → wp_X5_takeThisWord (fun u_19 => wp_X5_takeNumber (fun r_20 u_21 => wp_X5_isSound (fun r_22 => ((r_22 = 0 → (∃ n15, wp_X1_readInto_L15 P6 (fun t0 t1 z2 => E6 P6 t0 t1) n15 b u_21 0)) ∧ (¬ r_22 = 0 → (∃ n15, wp_X1_readInto_L15 P6 (fun t0 t1 z2 => E6 P6 t0 t1) n15 ((va_up (va_up (va_up b.1 0 r1) 1 r2) 2 r_20), b.2.1, b.2.2.1, b.2.2.2.1, b.2.2.2.2) u_21 0)))) u_21) u_19 (1 : Int32) (99 : Int32)) u3 (2 : Int32) → wp_X7_mustWord (fun r_14 u_15 => ((r_14 = 0 → P7 0 u_15) ∧ (¬ r_14 = 0 → wp_X7_readsNumber (fun r_17 u_18 => ((¬ r_17 = 0 → (∃ n116, wp_X7_readsBoard_L116 P7 (fun t0 => P7 0 t0) (fun t0 => E7 P7 t0) n116 (u_18.1, u_18.2.1, (va_up u_18.2.2.1 0 (vp_updL (u_18.2.2.1 0) (Int32.toNatClampNeg 2) (Int32.toInt64 (u_18.1 8)))), u_18.2.2.2))) ∧ (r_17 = 0 → P7 0 u_18))) u_15 (1 : Int32) (99 : Int32)))) (v3.1, v3.2.1, (va_up v3.2.2.1 0 (vp_updL (v3.2.2.1 0) 1 (Int32.toInt64 r2))), v3.2.2.2) 1 → ∃ b' t' r v', P6 b' t' ∧ P7 r v' ∧ OUTB b' t' r v' := by
        intro hi r2 u3 v3 g1 g2 g3 g4 g5 g6 k6 k7
        have h3 : v3.2 = x.2 := g1.2.2.2
        refine sm_headB hZ hM hs0 ⟨?_, ?_, ?_, fun k hk => ?_⟩ ?_ ⟨b6, b7⟩ ⟨g4, g5⟩ (pr r2 g4 g6) (RT_fn g2 (FN_up v3 _)) k6 k7
        · show v3.2.2.2 = s.2.2.2
          rw [h3, fn.2.2.2, fv]
        · show v3.1 5 = s.1 5
          rw [g1.2.2.1 5 (by decide), fn.1, f5]
        · show v3.1 0 = s.1 0
          rw [g1.2.2.1 0 (by decide), fn.1, f0]
        · show va_up v3.2.2.1 0 _ k = _
          rw [va_n hk, h3, fn.2.2.1 k hk, fv]
        · show vp_updL (v3.2.2.1 0) 1 (Int32.toInt64 r2) = _
          rw [h3, x0]
      by_cases c : 10 ≤ 40 / r1
      · have c1 := q_le c
        have nc : ¬ 40 / r1 < (10 : Int32) := fun g => by have := q_lt g; omega
        rw [if_neg nc] at k6
        obtain ⟨r2, u3, r8, v3, c2, c3, c4, c5⟩ := sm_number bR (by decide) (by decide) k6 (k7.1 c)
        rcases c5 with ⟨rfl, c5, c6, c7, c8, _⟩ | ⟨rfl, c5⟩
        · have k := c3.1 (by decide)
          rw [← c6] at k
          rw [e1] at c7
          rw [e10] at c8
          exact go (hi := 10) c4 c5 c6 c7 c8 (by omega) c2 k
        · obtain ⟨t', g1, g2⟩ := fa_headB (b := fun b r3 => ((va_up (va_up (va_up b.1 0 r1) 1 r2) 2 r3), b.2.1, b.2.2.1, b.2.2.2.1, b.2.2.2.2)) (b2 := fun b _ => b) c5 c2
          exact ⟨b, t', 0, v3, g1, c3.2 rfl, Or.inr ⟨rfl, g2⟩⟩
      · have c1 := q_nle c
        rw [if_pos (Int32.lt_iff_toInt_lt.mpr c1)] at k6
        have k7 := rows_e (k7.2 c)
        rw [rr] at k7
        obtain ⟨r2, u3, r8, v3, c2, c3, c4, c5⟩ := sm_number bR (by decide) (by omega) k6 k7.2
        rcases c5 with ⟨rfl, c5, c6, c7, c8, _⟩ | ⟨rfl, c5⟩
        · have k := c3.1 (by decide)
          rw [← c6] at k
          rw [e1] at c7
          refine go (hi := 10) c4 c5 c6 c7 (by omega) c8 c2 ?_
          refine dm2 (F := fun k => wp_X7_mustWord k (v3.1, v3.2.1, (va_up v3.2.2.1 0 (vp_updL (v3.2.2.1 0) 1 (Int32.toInt64 r2))), v3.2.2.2) 1) (dt_X7_mustWord _ _) k (fun _ x2 h => ⟨h.1, fun d => ?_⟩)
          refine dm2 (F := fun k => wp_X7_readsNumber k x2 1 99) (dt_X7_readsNumber _ _ _) (h.2 d) (fun _ _ h => ⟨fun d => ?_, h.2⟩)
          obtain ⟨n, h⟩ := h.1 d
          exact ⟨n, rb_same n _ h⟩
        · obtain ⟨t', g1, g2⟩ := fa_headB (b := fun b r3 => ((va_up (va_up (va_up b.1 0 r1) 1 r2) 2 r3), b.2.1, b.2.2.1, b.2.2.2.1, b.2.2.2.2)) (b2 := fun b _ => b) c5 c2
          exact ⟨b, t', 0, v3, g1, c3.2 rfl, Or.inr ⟨rfl, g2⟩⟩
    · obtain ⟨t', g1, g2⟩ := fault b4 b1
      exact ⟨b, t', 0, v2, g1, b2.2 rfl, Or.inr ⟨rfl, g2⟩⟩
  · obtain ⟨r1, u2, b1, b4⟩ := fa_num a4 a1
    obtain ⟨t', g1, g2⟩ := fault b4 b1
    exact ⟨b, t', 0, v1, g1, a2.1 rfl, Or.inr ⟨rfl, g2⟩⟩
