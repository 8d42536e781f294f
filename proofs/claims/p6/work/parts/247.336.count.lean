/-! count. -/
theorem e2_choose0 {P : Mo → Prop} {b : Bd} {t : Mo} (h0 : (b.1 0 * b.1 1).toInt = 0) (h : wp_X2_choose P t b) : ∃ u, P u ∧ u.1 0 = 0 := by
  have e1 : (1 : Int32).toInt = 1 := rfl
  have e0 : (0 : Int32).toInt = 0 := rfl
  unfold wp_X2_choose wp_X2_sortByLeft at h
  have h := cells6_e h
  obtain ⟨n, h⟩ := h
  have s := nw (tq_subr e1 (b.1 0 * b.1 1)) (by omega)
  generalize b.1 0 * b.1 1 - 1 = z at *
  cases n with
  | zero => exact (show False from h).elim
  | succ n =>
    unfold wp_X2_sortByLeft_L17 at h
    obtain ⟨n18, h⟩ := h.1 (Int32.lt_iff_toInt_lt.mpr (by rw [e0]; omega))
    cases n18 with
    | zero => exact (show False from h).elim
    | succ n18 =>
      unfold wp_X2_choose_L18 at h
      exact ⟨_, h.1 (by decide), rfl⟩
theorem e7_finds0 {P : Md → Prop} {s : Md} {R W D : Int} (hf : rw_ok R W D (s.2.2.1 0)) (h0 : R * W = 0) (h : wp_X7_findsTurning P s) : ∃ v, P v ∧ v.1 1 = 0 ∧ v.1 0 = s.1 0 ∧ v.2.2 = s.2.2 := by
  have e0 : (0 : Int32).toInt = 0 := rfl
  have rn := rw_n hf
  unfold wp_X7_findsTurning at h
  obtain ⟨n, h⟩ := h
  cases n with
  | zero => exact (show False from h).elim
  | succ n =>
    unfold wp_X7_findsTurning_L19 at h
    have h := cells7_e h
    exact ⟨_, h.1 (Int32.le_iff_toInt_le.mpr (by rw [e0]; show (Int64.toInt32 (s.2.2.1 0 0) * Int64.toInt32 (s.2.2.1 0 1)).toInt ≤ 0; omega)), rfl, rfl, rfl⟩
theorem sm_turning {P6 : Mo → Prop} {P7 : Md → Prop} {b : Bd} {t : Mo} {m : Md} {N R W D : Int} (hB : RB b (m.2.2.1 0)) (hM : mb N R W D m) (hs : R ≤ 0 ∨ 0 < D) (h6 : wp_X2_choose P6 t b) (h7 : wp_X7_findsTurning P7 m) : ∃ u v, P6 u ∧ P7 v ∧ v.1 1 = u.1 0 ∧ v.1 0 = m.1 0 ∧ v.2.2 = m.2.2 ∧ (0 < D → ∃ T, CHS T u ∧ T = bs_at v.2.1 ∧ (∀ i, T i = true → (i : Int) < R * W) ∧ (u.1 0).toInt ≤ 40) := by
  have hf := hM.2.2.2.2.1
  have hR := hf.2.2.2.2.2.1
  have rc := RB_cells hf hB
  by_cases hD : 0 < D
  · obtain ⟨u, h6, i6, k6, A6, T6, ch, p6, q6⟩ := e2_choose hf hD hB h6
    obtain ⟨w, h7, w1, w2, w3, m7, k7, A7, p7, q7⟩ := e7_finds hf hD hB h7
    obtain ⟨eT, em, ec⟩ := PR_f (fun c hc => (CU_b hf hD hB (c := c) (by omega)).1) p6 q6 p7 q7
    have e1 : w.1 1 = u.1 0 := Int32.toInt_inj.mp (by have := ch.1; omega)
    have hL := hf.2.2.2.2.1
    have pb := PR_b (by omega) p6
    have pc := PR_ct p6
    have cl := ct_le T6 (R * W).toNat
    exact ⟨u, w, h6, h7, e1, w1 0 (by decide), by rw [Prod.ext_iff]; exact ⟨w2, w3⟩, fun _ => ⟨T6, ch, eT, fun i hi => by have := (pb.2.2 i (pb.2.1 i hi)).1; omega, by have := ch.1; omega⟩⟩
  · have hw : R * W = 0 := by
      have : R = 0 := by omega
      rw [this, Int.zero_mul]
    obtain ⟨u, h6, a⟩ := e2_choose0 (by omega) h6
    obtain ⟨w, h7, b1, b2, b3⟩ := e7_finds0 hf hw h7
    exact ⟨u, w, h6, h7, b1.trans a.symm, b2, b3, fun q => (hD q).elim⟩
theorem sm_count {P6 : Int32 → Mo → Pa → Prop} {P7 : Int32 → Md → Prop} {s1 : Tp} {s2 : Bd} {s4 : Mo} {s6 : Pa} {z7 : Nat → Option Bd} {m : Md} {x1 : Int32} {N R W D : Int} (hx : RX s1 m) (hB : RB s2 (m.2.2.1 0)) (hP : RP s6 m) (hS : RSh z7 m) (hM : mb N R W D m) (hs : R ≤ 0 ∨ 0 < D) (h6 : wp_X6_count P6 s1 s2 s4 s6 z7 x1) (h7 : wp_X7_count P7 m x1) : ∃ r t m', P6 r t s6 ∧ P7 r m' ∧ NB m m' := by
  have t2 : Int32.toNatClampNeg 2 = 2 := rfl
  have t0 : Int32.toNatClampNeg 0 = 0 := rfl
  have t1 : Int32.toNatClampNeg 1 = 1 := rfl
  have hb := hB.1
  have fl : ∀ r, P6 r s4 s6 → P7 r m → ∃ r t m', P6 r t s6 ∧ P7 r m' ∧ NB m m' := fun r a b => ⟨r, s4, m, a, b, NB_rf m⟩
  unfold wp_X6_count at h6
  unfold wp_X7_count at h7
  by_cases c0 : x1 = 0
  · have h7 := rows_e (h7.1 c0)
    rw [← hb.1] at h7
    exact fl _ (h6.1 c0) h7
  have h6 := h6.2 c0
  have h7 := h7.2 c0
  by_cases c1 : x1 = 1
  · have h7 := wide_e (h7.1 c1)
    rw [← hb.2.1] at h7
    exact fl _ (h6.1 c1) h7
  have h6 := h6.2 c1
  have h7 := h7.2 c1
  by_cases c2 : x1 = 2
  · have h7 := cells7_e (h7.1 c2)
    rw [← hb.1, ← hb.2.1] at h7
    exact fl _ (cells6_e (h6.1 c2)) h7
  have h6 := h6.2 c2
  have h7 := h7.2 c2
  by_cases c3 : x1 = 3
  · have h7 := h7.1 c3
    rw [t2, ← hb.2.2.1] at h7
    exact fl _ (h6.1 c3) h7
  have h6 := h6.2 c3
  have h7 := h7.2 c3
  by_cases c4 : x1 = 4
  · have h7 := drums_e (h7.1 c4)
    rw [← hb.2.2.2] at h7
    exact fl _ (h6.1 c4) h7
  have h6 := h6.2 c4
  have h7 := h7.2 c4
  by_cases c5 : x1 = 5
  · have h7 := h7.1 c5
    rw [← hP.1] at h7
    exact fl _ (h6.1 c5) h7
  have h6 := h6.2 c5
  have h7 := h7.2 c5
  by_cases c6 : x1 = 6
  · have h7 := h7.1 c6
    rw [← hx.1] at h7
    exact fl _ (h6.1 c6) h7
  have h6 := h6.2 c6
  have h7 := h7.2 c6
  by_cases c7 : x1 = 7
  · have h6 := h6.1 c7
    have h7 := h7.1 c7
    unfold wp_X6_shelvesUsed at h6
    rw [t0, t1] at h6 h7
    rcases hS 0 (by decide) with ⟨a1, a2⟩ | ⟨b, a1, a2, _⟩
    · rcases hS 1 (by decide) with ⟨b1, b2⟩ | ⟨b, b1, b2, _⟩
      · rw [a1, b1] at h6
        exact fl _ h6 ((h7.1 a2).1 b2)
      · rw [a1, b1] at h6
        exact fl _ h6 ((h7.1 a2).2 b2)
    · rcases hS 1 (by decide) with ⟨b1, b2⟩ | ⟨b, b1, b2, _⟩
      · rw [a1, b1] at h6
        exact fl _ h6 ((h7.2 a2).1 b2)
      · rw [a1, b1] at h6
        exact fl _ h6 ((h7.2 a2).2 b2)
  have h6 := h6.2 c7
  have h7 := h7.2 c7
  by_cases c8 : x1 = 8
  · obtain ⟨u, v, h6, h7, e, e2, e3, _⟩ := sm_turning hB hM hs (h6.1 c8) (h7.1 c8)
    rw [e] at h7
    exact ⟨_, u, v, h6, h7, fun i _ => by rw [e3], e2, by rw [e3], by rw [e3], by rw [e3]⟩
  · exact fl _ (h6.2 c8) (h7.2 c8)
