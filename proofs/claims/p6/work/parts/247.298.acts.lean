/-! Acts: lose, limit, wear, mend, exchange. -/
def AR (m m' : Md) (b : Bd) (p : Pa) : Prop := RB b (m'.2.2.1 0) ∧ RP p m' ∧ m'.2.2.2 0 = m.2.2.2 0 ∧ m'.2.2.1 2 = m.2.2.1 2
theorem e0_hasCell {P : Int32 → Prop} {s : Bd} {x : Int32} {T : Int} (hT : (s.1 0 * s.1 1).toInt = T) (h : wp_X0_hasCell P s x) : (P 1 ∧ 0 ≤ x.toInt ∧ x.toInt < T) ∨ (P 0 ∧ (x.toInt < 0 ∨ T ≤ x.toInt)) := by
  have e0 : (0 : Int32).toInt = 0 := rfl
  unfold wp_X0_hasCell at h
  by_cases c : x < 0
  · have := q_lt c
    exact Or.inr ⟨h.1 c, by omega⟩
  · have h := cells6_e (h.2 c)
    have := q_nlt c
    by_cases c2 : s.1 0 * s.1 1 ≤ x
    · have := q_le c2
      exact Or.inr ⟨h.1 c2, by omega⟩
    · have := q_nle c2
      exact Or.inl ⟨h.2 c2, by omega⟩
theorem e0_hasRow {P : Int32 → Prop} {s : Bd} {x : Int32} (h : wp_X0_hasRow P s x) : (P 1 ∧ 0 ≤ x.toInt ∧ x.toInt < (s.1 0).toInt) ∨ (P 0 ∧ (x.toInt < 0 ∨ (s.1 0).toInt ≤ x.toInt)) := by
  have e0 : (0 : Int32).toInt = 0 := rfl
  unfold wp_X0_hasRow at h
  by_cases c : x < 0
  · have := q_lt c
    exact Or.inr ⟨h.1 c, by omega⟩
  · have h := h.2 c
    have := q_nlt c
    by_cases c2 : s.1 0 ≤ x
    · have := q_le c2
      exact Or.inr ⟨h.1 c2, by omega⟩
    · have := q_nle c2
      exact Or.inl ⟨h.2 c2, by omega⟩
theorem e0_hasDrum {P : Int32 → Prop} {s : Bd} {x : Int32} (h : wp_X0_hasDrum P s x) : (P 1 ∧ 0 ≤ x.toInt ∧ x.toInt < (s.1 3).toInt) ∨ (P 0 ∧ (x.toInt < 0 ∨ (s.1 3).toInt ≤ x.toInt)) := by
  have e0 : (0 : Int32).toInt = 0 := rfl
  unfold wp_X0_hasDrum at h
  by_cases c : x < 0
  · have := q_lt c
    exact Or.inr ⟨h.1 c, by omega⟩
  · have h := h.2 c
    have := q_nlt c
    by_cases c2 : s.1 3 ≤ x
    · have := q_le c2
      exact Or.inr ⟨h.1 c2, by omega⟩
    · have := q_nle c2
      exact Or.inl ⟨h.2 c2, by omega⟩
theorem e0_isThere {P : Int32 → Prop} {s : Bd} (h : wp_X0_isThere P s) : (P 1 ∧ 0 < (s.1 0).toInt) ∨ (P 0 ∧ (s.1 0).toInt ≤ 0) := by
  have e0 : (0 : Int32).toInt = 0 := rfl
  unfold wp_X0_isThere at h
  by_cases c : s.1 0 ≤ 0
  · have := q_le c
    exact Or.inr ⟨h.1 c, by omega⟩
  · have := q_nle c
    exact Or.inl ⟨h.2 c, by omega⟩
theorem e7_isBoard {P : Int32 → Prop} {s : Md} {R W D : Int} (hf : rw_ok R W D (s.2.2.1 0)) (h : wp_X7_isBoard P s) : (P 1 ∧ 0 < D) ∨ (P 0 ∧ D ≤ 0) := by
  have e0 : (0 : Int32).toInt = 0 := rfl
  obtain ⟨_, _, n3, _⟩ := rw_n hf
  unfold wp_X7_isBoard at h
  have h := drums_e h
  by_cases c : Int64.toInt32 (s.2.2.1 0 3) ≤ 0
  · have := q_le c
    exact Or.inr ⟨h.1 c, by omega⟩
  · have := q_nle c
    exact Or.inl ⟨h.2 c, by omega⟩
theorem e7_in0 {P : Int32 → Prop} {x r : Int32} {T : Int} {a : Int64} {i : Int} (ha : a.toInt = i) (hr : r.toInt = T) (hT : -1000 ≤ T ∧ T ≤ 1000) (h : wp_X7_in P (Int32.toInt64 x) a (Int32.toInt64 (r - 1))) : (P 1 ∧ i ≤ x.toInt ∧ x.toInt < T) ∨ (P 0 ∧ (x.toInt < i ∨ T ≤ x.toInt)) := by
  have e1 : (1 : Int32).toInt = 1 := rfl
  have s1 := nw (tq_subr e1 r) (by omega)
  have x64 := tq_64 x
  have r64 := tq_64 (r - 1)
  rcases e7_in h with ⟨h, g1, g2⟩ | ⟨h, g⟩
  · exact Or.inl ⟨h, by omega, by omega⟩
  · exact Or.inr ⟨h, by omega⟩
theorem e7_isCell {P : Int32 → Prop} {s : Md} {x : Int32} {R W D : Int} (hf : rw_ok R W D (s.2.2.1 0)) (h : wp_X7_isCell P s x) : (P 1 ∧ 0 ≤ x.toInt ∧ x.toInt < R * W) ∨ (P 0 ∧ (x.toInt < 0 ∨ R * W ≤ x.toInt)) := by
  obtain ⟨_, _, _, n4, n5⟩ := rw_n hf
  unfold wp_X7_isCell at h
  have h := cells7_e h
  rcases e7_in0 (i := 0) rfl n4 (by omega) h with ⟨h, g⟩ | ⟨h, g⟩
  · exact Or.inl ⟨h.2, g⟩
  · exact Or.inr ⟨h.2, g⟩
theorem e7_isRow {P : Int32 → Prop} {s : Md} {x : Int32} {R W D : Int} (hf : rw_ok R W D (s.2.2.1 0)) (h : wp_X7_isRow P s x) : (P 1 ∧ 0 ≤ x.toInt ∧ x.toInt < R) ∨ (P 0 ∧ (x.toInt < 0 ∨ R ≤ x.toInt)) := by
  obtain ⟨n1, _, _, _, n5⟩ := rw_n hf
  unfold wp_X7_isRow at h
  have h := rows_e h
  rcases e7_in0 (i := 0) rfl n1 (by omega) h with ⟨h, g⟩ | ⟨h, g⟩
  · exact Or.inl ⟨h.2, g⟩
  · exact Or.inr ⟨h.2, g⟩
theorem e7_isDrum {P : Int32 → Prop} {s : Md} {x : Int32} {R W D : Int} (hf : rw_ok R W D (s.2.2.1 0)) (h : wp_X7_isDrum P s x) : (P 1 ∧ 0 ≤ x.toInt ∧ x.toInt < D) ∨ (P 0 ∧ (x.toInt < 0 ∨ D ≤ x.toInt)) := by
  obtain ⟨_, _, n3, _, n5⟩ := rw_n hf
  unfold wp_X7_isDrum at h
  have h := drums_e h
  rcases e7_in0 (i := 0) rfl n3 (by omega) h with ⟨h, g⟩ | ⟨h, g⟩
  · exact Or.inl ⟨h.2, g⟩
  · exact Or.inr ⟨h.2, g⟩
/-- lose -/
theorem sm_lose {P6 : Int32 → Bd → Pa → Prop} {P7 : Int32 → Md → Prop} {s6 : Pa} {s2 : Bd} {m : Md} {x1 x2 : Int32} {N R W D : Int} (hp : pa s6) (hP : RP s6 m) (hB : RB s2 (m.2.2.1 0)) (hM : mb N R W D m) (hs : R ≤ 0 ∨ 0 < D) (h6 : wp_X6_lose P6 s2 s6 x1 x2) (h7 : wp_X7_lose P7 m x1 x2) : ∃ r b p m', P6 r b p ∧ P7 r m' ∧ AR m m' b p := by
  have e0 : (0 : Int32).toInt = 0 := rfl
  have e9 : (9 : Int32).toInt = 9 := rfl
  have hf := hM.2.2.2.2.1
  have k40 : R * W ≤ 40 := hf.2.2.2.2.2.1.2.2.2.2.2.1
  have hc := RB_cells hf hB
  have fl : ∀ r, P6 r s2 s6 → P7 r m → ∃ r b p m', P6 r b p ∧ P7 r m' ∧ AR m m' b p := fun r a b => ⟨r, s2, s6, m, a, b, hB, hP, rfl, rfl⟩
  unfold wp_X6_lose at h6
  unfold wp_X7_lose at h7
  rcases e0_hasCell hc.2.2.1 h6 with ⟨h6, g1, g2⟩ | ⟨h6, g⟩
  · rcases e7_isCell hf h7 with ⟨h7, _, _⟩ | ⟨_, g⟩
    · have h6 := h6.2 (by decide)
      have h7 := h7.2 (by decide)
      rcases e7_inC (i := 0) (j := 9) rfl rfl h7 with ⟨h7, j1, j2⟩ | ⟨h7, j⟩
      · have c1 : ¬ x2 < 0 := fun c => by have := q_lt c; omega
        have c2 : x2 ≤ 9 := Int32.le_iff_toInt_le.mpr (by omega)
        have h6 := ((h6.2 c1).1 c2).2
        have h7 := e7_of (i := 4) g1 (by omega) rfl (by decide) (h7.1 (by decide))
        rw [tn_i] at h6
        have at_ := (RB_at (c := x1.toInt.toNat) hf hB (by omega)).1
        have a7 : s2.2.1 7 x1.toInt.toNat = _ := at_ 4 (by decide)
        rw [← a7] at h7
        by_cases c : s2.2.1 7 x1.toInt.toNat = x2
        · exact fl _ (h6.2 c) (h7.2 c)
        · obtain ⟨p, u, h6, h7, q1, q2, q3, q4, q5, q6⟩ := sm_push hp hP hB hM hs (h6.1 c) (h7.1 c)
          have u0 : u.2.2.1 0 = m.2.2.1 0 := q6 0 (by decide)
          obtain ⟨w, h7, f1, gw⟩ := e7_sets (i := 4) g1 (by omega) rfl (by decide) h7
          unfold wp_X0_setLost at h6
          rcases e0_hasCell hc.2.2.1 h6 with ⟨h6, _⟩ | ⟨_, g⟩
          · have h6 := (h6.2 (by decide)).2
            rw [tn_i] at h6
            refine ⟨_, _, _, w, h6, h7, ?_, RP_k q1 (by rw [f1.1]) (f1.2.2.1 1 (by decide)), by rw [f1.2.2.2, q5], (f1.2.2.1 2 (by decide)).trans (q6 2 (by decide))⟩
            rw [gw, u0]
            refine RB_c (c := x1.toInt.toNat) hB rfl ⟨rfl, rfl, rfl⟩ (fun j hj i hi => ?_) (fun i hi => rfl) (fun i hi => uL_n (by omega)) ⟨fun j hj => ?_, ?_⟩
            · show va_up s2.2.1 7 _ (3 + j) i = _
              by_cases q : j = 4
              · subst q
                exact up_n hi
              · rw [va_n (by omega)]
            · show va_up s2.2.1 7 _ (3 + j) x1.toInt.toNat = _
              by_cases q : j = 4
              · subst q
                rw [uL_e, t32_64]
                exact up_e
              · rw [va_n (by omega), uL_n (by omega)]
                exact at_ j hj
            · rw [uL_n (by omega)]
              exact ⟨(RB_at (c := x1.toInt.toNat) hf hB (by omega)).2, RB_w (c := x1.toInt.toNat) hf hB (by omega)⟩
          · omega
      · have h7 := h7.2 rfl
        by_cases c1 : x2 < 0
        · exact fl _ (h6.1 c1) h7
        · have := q_nlt c1
          have c2 : ¬ x2 ≤ 9 := fun c => by have := q_le c; omega
          exact fl _ ((h6.2 c1).2 c2) h7
    · omega
  · rcases e7_isCell hf h7 with ⟨_, _, _⟩ | ⟨h7, _⟩
    · omega
    · exact fl _ (h6.1 rfl) (h7.1 rfl)
/-- limit -/
theorem sm_limit {P6 : Int32 → Bd → Pa → Prop} {P7 : Int32 → Md → Prop} {s6 : Pa} {s2 : Bd} {m : Md} {x1 : Int32} {N R W D : Int} (hp : pa s6) (hP : RP s6 m) (hB : RB s2 (m.2.2.1 0)) (hM : mb N R W D m) (hs : R ≤ 0 ∨ 0 < D) (h6 : wp_X6_limit P6 s2 s6 x1) (h7 : wp_X7_limit P7 m x1) : ∃ r b p m', P6 r b p ∧ P7 r m' ∧ AR m m' b p := by
  have e0 : (0 : Int32).toInt = 0 := rfl
  have e1 : (1 : Int32).toInt = 1 := rfl
  have e99 : (99 : Int32).toInt = 99 := rfl
  have hf := hM.2.2.2.2.1
  have hc := RB_cells hf hB
  have hR := hf.2.2.2.2.2.1
  have fl : ∀ r, P6 r s2 s6 → P7 r m → ∃ r b p m', P6 r b p ∧ P7 r m' ∧ AR m m' b p := fun r a b => ⟨r, s2, s6, m, a, b, hB, hP, rfl, rfl⟩
  unfold wp_X6_limit at h6
  unfold wp_X7_limit at h7
  rcases e0_isThere h6 with ⟨h6, g1⟩ | ⟨h6, g⟩
  · rcases e7_isBoard hf h7 with ⟨h7, _⟩ | ⟨_, g⟩
    · have h6 := h6.2 (by decide)
      have h7 := h7.2 (by decide)
      rcases e7_inC (i := 1) (j := 99) rfl rfl h7 with ⟨h7, j1, j2⟩ | ⟨h7, j⟩
      · have c1 : ¬ x1 < 1 := fun c => by have := q_lt c; omega
        have c2 : x1 ≤ 99 := Int32.le_iff_toInt_le.mpr (by omega)
        have h6 := (h6.2 c1).1 c2
        have h7 := h7.1 (by decide)
        have t2 : Int32.toNatClampNeg 2 = 2 := rfl
        rw [t2, ← hB.1.2.2.1] at h7
        by_cases c : s2.1 2 = x1
        · exact fl _ (h6.2 c) (h7.2 c)
        · obtain ⟨p, u, h6, h7, q1, q2, q3, q4, q5, q6⟩ := sm_push hp hP hB hM hs (h6.1 c) (h7.1 c)
          have u0 : u.2.2.1 0 = m.2.2.1 0 := q6 0 (by decide)
          refine ⟨_, _, _, _, h6, h7, ?_, RP_k q1 rfl rfl, by rw [← q5], q6 2 (by decide)⟩
          show RB _ (vp_updL (u.2.2.1 0) 2 (Int32.toInt64 x1))
          rw [u0]
          obtain ⟨⟨b0, b1, b2, b3⟩, ⟨b4, b5⟩, b6⟩ := hB
          refine ⟨⟨?_, ?_, ?_, ?_⟩, ⟨?_, fun d hd => ?_⟩, fun c hc => ?_⟩
          · rw [uL_n (by decide)]
            exact b0
          · rw [uL_n (by decide)]
            exact b1
          · rw [uL_e, t32_64]
            rfl
          · rw [uL_n (by decide)]
            exact b3
          · rw [uL_n (by decide)]
            exact b4
          · rw [uL_n (by decide)] at hd
            have dd : d_f (vp_updL (m.2.2.1 0) 2 (Int32.toInt64 x1)) d = d_f (m.2.2.1 0) d := by unfold d_f; rw [uL_n (by omega)]
            rw [dd, uL_n (by omega), uL_n (by omega)]
            obtain ⟨d1, d2, d3, d4⟩ := b5 d hd
            refine ⟨DG_k d1 (fun i h1 h2 => uL_n (by omega)), d2, d3, fun k hk => ?_⟩
            rw [uL_n (by omega)]
            exact d4 k hk
          · rw [uL_n (by decide), uL_n (by decide)] at hc
            obtain ⟨d1, d2⟩ := b6 c hc
            refine ⟨fun j hj => ?_, ?_⟩
            · rw [uL_n (by omega)]
              exact d1 j hj
            · rw [uL_n (by omega)]
              exact d2
      · have h7 := h7.2 rfl
        by_cases c1 : x1 < 1
        · exact fl _ (h6.1 c1) h7
        · have := q_nlt c1
          have c2 : ¬ x1 ≤ 99 := fun c => by have := q_le c; omega
          exact fl _ ((h6.2 c1).2 c2) h7
    · omega
  · rcases e7_isBoard hf h7 with ⟨_, _⟩ | ⟨h7, _⟩
    · omega
    · exact fl _ (h6.1 rfl) (h7.1 rfl)
