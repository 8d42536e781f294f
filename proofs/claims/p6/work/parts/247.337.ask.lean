/-! Queries: worn, sign, at. -/
theorem sq_worn {P6 P7 : Int64 → Prop} {s2 : Bd} {m : Md} {x1 : Int32} {N R W D : Int} (hB : RB s2 (m.2.2.1 0)) (hM : mb N R W D m) (hs : R ≤ 0 ∨ 0 < D) (h6 : wp_X6_worn P6 s2 x1) (h7 : wp_X7_worn P7 m x1) : ∃ r, P6 r ∧ P7 r := by
  have hf := hM.2.2.2.2.1
  have hR := hf.2.2.2.2.2.1
  have rc := RB_cells hf hB
  unfold wp_X6_worn at h6
  unfold wp_X7_worn at h7
  rcases e0_hasCell rc.2.2.1 h6 with ⟨h6, g1, g2⟩ | ⟨h6, g⟩
  · rcases e7_isCell hf h7 with ⟨h7, _, _⟩ | ⟨_, g⟩
    · have h6 := (h6.2 (by decide)).2
      have h7 := e7_wornOf g1 (by omega) (h7.2 (by decide))
      have at_ := RB_x (c := x1.toInt.toNat) hf hB (by omega)
      rw [tn_i, at_.2.2.2.2.2.2.2] at h6
      exact ⟨_, h6, h7⟩
    · omega
  · rcases e7_isCell hf h7 with ⟨_, _, _⟩ | ⟨h7, _⟩
    · omega
    · exact ⟨_, h6.1 rfl, h7.1 rfl⟩
theorem sq_sign {P6 P7 : Int32 → Prop} {s2 : Bd} {m : Md} {x1 x2 : Int32} {N R W D : Int} (hB : RB s2 (m.2.2.1 0)) (hM : mb N R W D m) (hs : R ≤ 0 ∨ 0 < D) (h6 : wp_X6_sign P6 s2 x1 x2) (h7 : wp_X7_sign P7 m x1 x2) : ∃ r, P6 r ∧ P7 r := by
  have e0 : (0 : Int32).toInt = 0 := rfl
  have e40 : (40 : Int32).toInt = 40 := rfl
  have e42 : (42 : Int32).toInt = 42 := rfl
  have e8 : (8 : Int32).toInt = 8 := rfl
  have e2 : (2 : Int32).toInt = 2 := rfl
  have hf := hM.2.2.2.2.1
  have hR := hf.2.2.2.2.2.1
  have rc := RB_cells hf hB
  unfold wp_X6_sign wp_X0_signOf at h6
  unfold wp_X7_sign at h7
  rcases e7_isDrum hf h7 with ⟨h7, g1, g2⟩ | ⟨h7, g⟩
  · have h6 := (h6.2 (fun c => by have := q_lt c; omega)).2 (fun c => by have := q_le c; omega)
    have h7 := e7_flapsOf g1 (by omega) (h7.2 (by decide))
    have fd := hf.2.2.2.2.2.2.1 x1.toInt.toNat (by omega)
    have b3 : (x1.toInt.toNat : Int) < ((m.2.2.1 0) 3).toInt := by rw [hf.2.2.1]; omega
    obtain ⟨b4, b5, b6, b7⟩ := hB.2.1.2 x1.toInt.toNat b3
    have t1 : (Int64.toInt32 (m.2.2.1 0 (8 + 42 * x1.toInt.toNat + 1))).toInt = d_f (m.2.2.1 0) x1.toInt.toNat := by
      rw [t32 (by unfold d_f at fd; omega)]
      rfl
    rcases e7_in0 (i := 0) rfl t1 (by omega) h7 with ⟨h7, j1, j2⟩ | ⟨h7, j⟩
    · have h6 := (h6.2 (fun c => by have := q_lt c; omega)).2
      rw [tn_i, b6] at h6
      have h6 := (h6.1 (Int32.lt_iff_toInt_lt.mpr (by omega))).2
      have h7 := h7.2 (by decide)
      unfold wp_X7_signOf at h7
      have a1 := tq_mul x1 40
      rw [e40] at a1
      have a1 := nw a1 (by omega)
      have a2 := nw (tq_add (x1 * 40) x2) (by omega)
      have c1 := tq_mul 42 x1
      rw [e42] at c1
      have c1 := nw c1 (by omega)
      have c2 := tq_add 8 (42 * x1)
      rw [e8] at c2
      have c2 := nw c2 (by omega)
      have c3 := nw (tq_addr e2 (8 + 42 * x1)) (by omega)
      have c4 := nw (tq_add (8 + 42 * x1 + 2) x2) (by omega)
      have i6 : Int32.toNatClampNeg (x1 * 40 + x2) = 40 * x1.toInt.toNat + x2.toInt.toNat := by
        rw [tn_i]
        omega
      have i7 : Int32.toNatClampNeg (8 + 42 * x1 + 2 + x2) = 8 + 42 * x1.toInt.toNat + 2 + x2.toInt.toNat := by
        rw [tn_i]
        omega
      rw [i6, b7 x2.toInt.toNat (by omega)] at h6
      rw [i7] at h7
      exact ⟨_, h6, h7.2⟩
    · have h7 := h7.1 rfl
      by_cases c : x2 < 0
      · exact ⟨_, h6.1 c, h7⟩
      · have := q_nlt c
        have h6 := (h6.2 c).2
        rw [tn_i, b6] at h6
        exact ⟨_, h6.2 (fun c => by have := q_lt c; omega), h7⟩
  · have h7 := h7.1 rfl
    by_cases c : x1 < 0
    · exact ⟨_, h6.1 c, h7⟩
    · have := q_nlt c
      exact ⟨_, (h6.2 c).1 (Int32.le_iff_toInt_le.mpr (by omega)), h7⟩
theorem sq_at {P6 P7 : Int32 → Prop} {s2 : Bd} {m : Md} {x1 x2 x3 : Int32} {N R W D : Int} (hB : RB s2 (m.2.2.1 0)) (hM : mb N R W D m) (hs : R ≤ 0 ∨ 0 < D) (h6 : wp_X6_at P6 s2 x1 x2 x3) (h7 : wp_X7_at P7 m x1 x2 x3) : ∃ r, P6 r ∧ P7 r := by
  have e0 : (0 : Int32).toInt = 0 := rfl
  have e1 : (1 : Int32).toInt = 1 := rfl
  have e2 : (2 : Int32).toInt = 2 := rfl
  have hf := hM.2.2.2.2.1
  have hR := hf.2.2.2.2.2.1
  have rc := RB_cells hf hB
  have rn := rw_n hf
  unfold wp_X6_at at h6
  unfold wp_X7_at at h7
  rcases e0_hasRow h6 with ⟨h6, g1, g2⟩ | ⟨h6, g⟩
  · rcases e7_isRow hf h7 with ⟨h7, _, _⟩ | ⟨_, g⟩
    · have h6 := h6.2 (by decide)
      have h7 := wide_e (h7.2 (by decide))
      have hD : 0 < D := by omega
      rcases e7_in0 (i := 0) rfl rn.2.1 (by omega) h7 with ⟨h7, j1, j2⟩ | ⟨h7, j⟩
      · have h6 := (h6.2 (fun c => by have := q_lt c; omega)).1 (Int32.lt_iff_toInt_lt.mpr (by omega))
        have k := nrow (R := R) (W := W) (x := x1.toInt) g1 (by omega) (by omega)
        have ew : Int64.toInt32 (m.2.2.1 0 1) = s2.1 1 := Int32.toInt_inj.mp (rn.2.1.trans rc.2.1.symm)
        have m1 : (x1 * s2.1 1).toInt = x1.toInt * W := by
          have := tq_mul x1 (s2.1 1)
          rw [rc.2.1] at this
          exact nw this (by omega)
        have m2 := nw (tq_add (x1 * s2.1 1) x2) (by omega)
        have h7 := h7.2 (by decide)
        rcases e7_inC (i := 0) (j := 2) rfl rfl h7 with ⟨h7, i1, i2⟩ | ⟨h7, i⟩
        · have h7 := wide_e (h7.2 (by decide))
          have em : Int64.toInt32 (m.2.2.1 0 1) * x1 = x1 * s2.1 1 := by rw [ew]; exact Int32.mul_comm _ _
          rw [em] at h7
          generalize hcc : x1 * s2.1 1 + x2 = cc at *
          have at_ := RB_x (c := cc.toInt.toNat) hf hB (by omega)
          have h7 : wp_X7_signAt (fun r => P7 r) m cc x3 := h7
          unfold wp_X7_signAt at h7
          rw [tn_i] at h6
          by_cases c0 : x3 = 0
          · have h6 := (h6.1 c0).2
            have h6 := e0_signOn (j := 1) hf hD hB ⟨by omega, by omega⟩ (by omega) at_.2.1 h6
            rw [c0] at h7
            exact ⟨_, h6, e7_signAt (j := 1) hf hD ⟨by omega, by omega⟩ rfl (by omega) h7⟩
          · have h6 := h6.2 c0
            by_cases c1 : x3 = 1
            · have h6 := (h6.1 c1).2
              have h6 := e0_signOn (j := 2) hf hD hB ⟨by omega, by omega⟩ (by omega) at_.2.2.1 h6
              rw [c1] at h7
              exact ⟨_, h6, e7_signAt (j := 2) hf hD ⟨by omega, by omega⟩ rfl (by omega) h7⟩
            · have c2 : x3 = 2 := by
                refine Int32.toInt_inj.mp ?_
                have n0 : ¬ x3.toInt = 0 := fun q => c0 (Int32.toInt_inj.mp q)
                have n1 : ¬ x3.toInt = 1 := fun q => c1 (Int32.toInt_inj.mp q)
                omega
              have h6 := ((h6.2 c1).1 c2).2
              have h6 := e0_signOn (j := 3) hf hD hB ⟨by omega, by omega⟩ (by omega) at_.2.2.2.1 h6
              rw [c2] at h7
              exact ⟨_, h6, e7_signAt (j := 3) hf hD ⟨by omega, by omega⟩ rfl (by omega) h7⟩
        · have n0 : ¬ x3 = 0 := fun q => by rw [q, e0] at i; omega
          have n1 : ¬ x3 = 1 := fun q => by rw [q, e1] at i; omega
          have n2 : ¬ x3 = 2 := fun q => by rw [q, e2] at i; omega
          exact ⟨_, ((h6.2 n0).2 n1).2 n2, h7.1 rfl⟩
      · have h7 := h7.1 rfl
        by_cases c : x2 < 0
        · exact ⟨_, h6.1 c, h7⟩
        · have := q_nlt c
          exact ⟨_, (h6.2 c).2 (fun c => by have := q_lt c; omega), h7⟩
    · omega
  · rcases e7_isRow hf h7 with ⟨_, _, _⟩ | ⟨h7, _⟩
    · omega
    · exact ⟨_, h6.1 rfl, h7.1 rfl⟩
