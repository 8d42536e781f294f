/-! letter. -/
theorem wd_div {x w : Int32} {W R : Int} (hw : w.toInt = W) (hW : 1 ≤ W ∧ W ≤ 10) (hR : 1 ≤ R ∧ R ≤ 6) (hx : 0 ≤ x.toInt ∧ x.toInt < (W + 1) * R - 1) : ∃ q r : Int, (x / (w + 1)).toInt = q ∧ (x - x / (w + 1) * (w + 1)).toInt = r ∧ 0 ≤ q ∧ q < R ∧ 0 ≤ r ∧ r ≤ W := by
  have e1 : (1 : Int32).toInt = 1 := rfl
  have s1 := nw (tq_addr e1 w) (by omega)
  have bx : (W + 1) * R ≤ 66 := by
    have := Int.mul_le_mul (show W + 1 ≤ 11 by omega) hR.2 (by omega) (by omega : (0 : Int) ≤ 11)
    omega
  have dq : x.toInt / (W + 1) * (W + 1) + x.toInt % (W + 1) = x.toInt := by
    rw [Int.mul_comm]
    exact Int.mul_ediv_add_emod _ _
  have m0 : 0 ≤ x.toInt % (W + 1) := Int.emod_nonneg _ (by omega)
  have m1 : x.toInt % (W + 1) < W + 1 := Int.emod_lt_of_pos _ (by omega)
  have q0 : 0 ≤ x.toInt / (W + 1) := Int.ediv_nonneg hx.1 (by omega)
  have q1 : x.toInt / (W + 1) < R := Int.ediv_lt_of_lt_mul (by omega) (by rw [Int.mul_comm]; omega)
  have d : (x / (w + 1)).toInt = x.toInt / (W + 1) := by
    rw [Int32.toInt_div, bm32, s1, hw, Int.tdiv_eq_ediv_of_nonneg hx.1]
    omega
  have p : (x / (w + 1) * (w + 1)).toInt = x.toInt / (W + 1) * (W + 1) := by
    have := tq_mul (x / (w + 1)) (w + 1)
    rw [d, s1, hw] at this
    exact nw this (by omega)
  have s := nw (tq_sub x (x / (w + 1) * (w + 1))) (by omega)
  exact ⟨_, _, d, by rw [s, p], q0, q1, by omega, by omega⟩
theorem sq_letter {P6 P7 : Int32 → Prop} {s2 : Bd} {m : Md} {x1 x2 : Int32} {N R W D : Int} (hB : RB s2 (m.2.2.1 0)) (hM : mb N R W D m) (hs : R ≤ 0 ∨ 0 < D) (h6 : wp_X6_letter P6 s2 x1 x2) (h7 : wp_X7_letter P7 m x1 x2) : ∃ r, P6 r ∧ P7 r := by
  have e0 : (0 : Int32).toInt = 0 := rfl
  have e1 : (1 : Int32).toInt = 1 := rfl
  have em : (-1 : Int32).toInt = -1 := rfl
  have hf := hM.2.2.2.2.1
  have hR := hf.2.2.2.2.2.1
  have rc := RB_cells hf hB
  have rn := rw_n hf
  have ww := hB.2.1.1.2
  rw [hf.1, hf.2.1] at ww
  have ew : Int64.toInt32 (m.2.2.1 0 1) = s2.1 1 := Int32.toInt_inj.mp (rn.2.1.trans rc.2.1.symm)
  have er : Int64.toInt32 (m.2.2.1 0 0) = s2.1 0 := Int32.toInt_inj.mp (rn.1.trans rc.1.symm)
  have ec : Int64.toInt32 (m.2.2.1 0 0) * Int64.toInt32 (m.2.2.1 0 1) = s2.1 0 * s2.1 1 := by rw [ew, er]
  unfold wp_X6_letter at h6
  unfold wp_X7_letter at h7
  rcases e7_inC (i := 0) (j := 1) rfl rfl h7 with ⟨h7, j1, j2⟩ | ⟨h7, j⟩
  · have h6 := (h6.2 (fun c => by have := q_lt c; omega)).2 (fun c => by have := q_lt c; omega)
    have h7 := h7.2 (by decide)
    by_cases c : -1 ≤ x2
    · have cx := q_le c
      have h7 := cells7_e (h7.1 c)
      rw [ec] at h7
      rcases e0_isThere (h6.1 c) with ⟨h6, g⟩ | ⟨h6, g⟩
      · have hD : 0 < D := by omega
        have h6 := cells6_e (h6.2 (by decide))
        have nc : ¬ s2.1 0 * s2.1 1 = 0 := fun q => by
          have := congrArg Int32.toInt q
          rw [e0, rc.2.2.1] at this
          have k := nrow (R := R) (W := W) (x := 0) (by omega) (by omega) (by omega)
          omega
        have h7 := wide_e (h7.1 nc)
        have h7 := rows_e h7
        rw [ew, er] at h7
        have s1 := nw (tq_addr e1 (s2.1 1)) (by omega)
        have pw : (W + 1) * R = R * W + R := by rw [Int.add_mul, Int.one_mul, Int.mul_comm]
        have m1 : ((s2.1 1 + 1) * s2.1 0).toInt = R * W + R := by
          have := tq_mul (s2.1 1 + 1) (s2.1 0)
          rw [s1, rc.2.1, rc.1, pw] at this
          exact nw this (by omega)
        have m2 := nw (tq_subr e1 ((s2.1 1 + 1) * s2.1 0)) (by omega)
        have m3 := nw (tq_add (s2.1 0 * s2.1 1) (s2.1 0)) (by omega)
        have m4 := nw (tq_subr e1 (s2.1 0 * s2.1 1 + s2.1 0)) (by omega)
        have el : s2.1 0 * s2.1 1 + s2.1 0 - 1 = (s2.1 1 + 1) * s2.1 0 - 1 := Int32.toInt_inj.mp (by omega)
        rw [el] at h6
        by_cases c1 : x2 = -1
        · exact ⟨_, h6.2 c1, h7.2 c1⟩
        · have n1 : ¬ x2.toInt = -1 := fun q => c1 (Int32.toInt_inj.mp (q.trans em.symm))
          have h6 := h6.1 c1
          have h7 := h7.1 c1
          by_cases c2 : x2 < (s2.1 1 + 1) * s2.1 0 - 1
          · have := q_lt c2
            have h6 := (h6.1 c2).2
            have h7 := wide_e (h7.1 c2)
            rw [ew] at h7
            have h7 := wide_e h7.2
            rw [ew] at h7
            obtain ⟨q, r, dq, dr, a1, a2, a3, a4⟩ := wd_div (x := x2) (w := s2.1 1) (W := W) (R := R) rc.2.1 ⟨by omega, by omega⟩ ⟨by omega, by omega⟩ ⟨by omega, by omega⟩
            by_cases c3 : x2 - x2 / (s2.1 1 + 1) * (s2.1 1 + 1) = s2.1 1
            · exact ⟨_, h6.2 c3, h7.2 c3⟩
            · have n3 : ¬ r = W := fun k => c3 (Int32.toInt_inj.mp (by omega))
              have h6 := (h6.1 c3).2
              have h7 := wide_e (h7.1 c3)
              rw [ew] at h7
              have h7 := wide_e h7.2
              rw [ew] at h7
              have k := nrow (R := R) (W := W) (x := q) a1 a2 (by omega)
              have p1 : (x2 / (s2.1 1 + 1) * s2.1 1).toInt = q * W := by
                have := tq_mul (x2 / (s2.1 1 + 1)) (s2.1 1)
                rw [dq, rc.2.1] at this
                exact nw this (by omega)
              have p2 := nw (tq_add (x2 / (s2.1 1 + 1) * s2.1 1) (x2 - x2 / (s2.1 1 + 1) * (s2.1 1 + 1))) (by omega)
              generalize x2 / (s2.1 1 + 1) * s2.1 1 + (x2 - x2 / (s2.1 1 + 1) * (s2.1 1 + 1)) = cc at *
              have at_ := RB_x (c := cc.toInt.toNat) hf hB (by omega)
              rw [tn_i] at h6
              unfold wp_X7_signAt at h7
              by_cases c4 : x1 = 0
              · have h6 := e0_signOn (j := 1) hf hD hB ⟨by omega, by omega⟩ (by omega) at_.2.1 (h6.2 c4).2
                rw [c4] at h7
                exact ⟨_, h6, e7_signAt (j := 1) hf hD ⟨by omega, by omega⟩ rfl (by omega) h7⟩
              · have c5 : x1 = 1 := by
                  refine Int32.toInt_inj.mp ?_
                  have : ¬ x1.toInt = 0 := fun q => c4 (Int32.toInt_inj.mp q)
                  omega
                have h6 := e0_signOn (j := 3) hf hD hB ⟨by omega, by omega⟩ (by omega) at_.2.2.2.1 (h6.1 c4).2
                rw [c5] at h7
                exact ⟨_, h6, e7_signAt (j := 3) hf hD ⟨by omega, by omega⟩ rfl (by omega) h7⟩
          · exact ⟨_, h6.2 c2, h7.2 c2⟩
      · have hw : R * W = 0 := by
          have : R = 0 := by omega
          rw [this, Int.zero_mul]
        have zc : s2.1 0 * s2.1 1 = 0 := Int32.toInt_inj.mp (by rw [e0]; omega)
        have h6 := h6.1 rfl
        have h7 := h7.2 zc
        by_cases c1 : x2 = -1
        · exact ⟨_, h6.2 c1, h7.2 c1⟩
        · have n1 : ¬ x2.toInt = -1 := fun q => c1 (Int32.toInt_inj.mp (q.trans em.symm))
          have c2 : ¬ x2 < 0 := fun q => by have := q_lt q; omega
          exact ⟨_, (h6.1 c1).2 c2, (h7.1 c1).2 c2⟩
    · exact ⟨_, h6.2 c, h7.2 c⟩
  · have h7 := h7.1 rfl
    by_cases c : x1 < 0
    · exact ⟨_, h6.1 c, h7⟩
    · have := q_nlt c
      exact ⟨_, (h6.2 c).1 (Int32.lt_iff_toInt_lt.mpr (by omega)), h7⟩
