/-! cost, place. -/
theorem NB_2 {m u : Md} (h2 : u.2 = m.2) (h1 : ie [3, 4] u.1 m.1) : NB m u := ⟨fun i _ => by rw [h2], h1 0 (by decide), by rw [h2], by rw [h2], by rw [h2]⟩
theorem sm_cost {P6 : Int32 → Prop} {P7 : Int32 → Md → Prop} {s1 : Tp} {s2 : Bd} {m : Md} {x1 : Int32} {N R W D : Int} (hx : RX s1 m) (hB : RB s2 (m.2.2.1 0)) (hM : mb N R W D m) (hs : R ≤ 0 ∨ 0 < D) (h6 : wp_X6_cost P6 s1 s2 x1) (h7 : wp_X7_cost P7 m x1) : ∃ r m', P6 r ∧ P7 r m' ∧ NB m m' := by
  have e0 : (0 : Int32).toInt = 0 := rfl
  have hf := hM.2.2.2.2.1
  have hR := hf.2.2.2.2.2.1
  have rc := RB_cells hf hB
  have sz : s1.1 0 = m.1 5 := hx.1
  have bx := hx.2.2
  unfold wp_X6_cost wp_X6_whyNotRow at h6
  unfold wp_X7_cost at h7
  rw [sz] at h6
  rcases e0_hasRow h6 with ⟨h6, g1, g2⟩ | ⟨h6, g⟩
  · rcases e7_isRow hf h7 with ⟨h7, _, _⟩ | ⟨_, g⟩
    · have h6 := h6.1 (by decide)
      have h7 := h7.1 (by decide)
      have hD : 0 < D := by omega
      rcases e6_isRowText hx (q := 0) (by decide) (by rw [e0]; omega) h6 with ⟨h6, j1, j2⟩ | ⟨h6, j⟩
      · rcases e7_isRowText (m := m) hf hx rfl (by omega) h7 with ⟨h7, _⟩ | ⟨_, j⟩
        · have h6 := (h6.2 (by decide)).2 rfl
          have h7 := h7.1 (by decide)
          obtain ⟨u, h6, h7, ⟨u2, u1⟩, _⟩ := sm_asks (m0 := m) hf hD hB hx rfl ⟨g1, by omega⟩ (by decide) (by decide) (by omega) (by rw [e0]; omega) j2 h6 h7
          exact ⟨_, u, h6, h7, NB_2 u2 u1⟩
        · exact (j ⟨by omega, j2⟩).elim
      · rcases e7_isRowText (m := m) hf hx rfl (by omega) h7 with ⟨_, k1, k2⟩ | ⟨h7, _⟩
        · exact (j ⟨by omega, k2⟩).elim
        · exact ⟨_, m, (h6.1 rfl).1 (by decide), h7.2 rfl, NB_rf m⟩
    · omega
  · rcases e7_isRow hf h7 with ⟨_, _, _⟩ | ⟨h7, _⟩
    · omega
    · exact ⟨_, m, (h6.2 rfl).1 (by decide), h7.2 rfl, NB_rf m⟩
theorem sm_place_L {P6 : Int32 → Prop} {P7 : Int32 → Md → Prop} {s1 : Tp} {s2 : Bd} {m : Md} {z1 z2 : Int32} {R W D : Int} (hf : rw_ok R W D (m.2.2.1 0)) (hD : 0 < D) (hB : RB s2 (m.2.2.1 0)) (hx : RX s1 m) (h1 : 0 ≤ z1.toInt ∧ z1.toInt < R) (hn : 1 ≤ (m.1 5).toInt ∧ (m.1 5).toInt ≤ W) (hs : SG m 0 (m.1 5)) : ∀ (n6 n7 : Nat) (v : Md) (z4 z5 z6 z7 : Int32), v.2 = m.2 → ie [3, 4] v.1 m.1 → 0 ≤ z7.toInt → z7.toInt ≤ W → wp_X6_place_L58 s1 s2 P6 (fun z1 z2 z3 z4 z5 z6 z7 => ((¬ z2 = 0 → P6 z5) ∧ (z2 = 0 → P6 z4))) n6 z1 z2 (m.1 5) z4 z5 z6 z7 → wp_X7_place_L52 P7 (fun t0 z1 z2 z3 z4 z5 z6 => ((¬ z2 = 0 → P7 z4 t0) ∧ (z2 = 0 → P7 z3 t0))) n7 v z1 z2 z4 z5 z6 z7 → ∃ r m', P6 r ∧ P7 r m' ∧ NB m m' := by
  have e0 : (0 : Int32).toInt = 0 := rfl
  have e1 : (1 : Int32).toInt = 1 := rfl
  have hR := hf.2.2.2.2.2.1
  have rc := RB_cells hf hB
  have rn := rw_n hf
  have bx := hx.2.2
  have ew : Int64.toInt32 (m.2.2.1 0 1) = s2.1 1 := Int32.toInt_inj.mp (rn.2.1.trans rc.2.1.symm)
  intro n6
  induction n6 with
  | zero =>
    intro n7 v z4 z5 z6 z7 _ _ _ _ h
    exact (show False from h).elim
  | succ n6 ih =>
    intro n7 v z4 z5 z6 z7 ev e5 h0 h3 h6 h7
    cases n7 with
    | zero => exact (show False from h7).elim
    | succ n7 =>
      unfold wp_X6_place_L58 at h6
      unfold wp_X7_place_L52 at h7
      have h7 := wide_e h7
      have v5 : v.1 5 = m.1 5 := e5 5 (by decide)
      have eg : v.2.2.1 0 = m.2.2.1 0 := by rw [ev]
      rw [eg, ew, v5] at h7
      have s7 := nw (tq_add z7 (m.1 5)) (by omega)
      have sz := nw (tq_addr e1 z7) (by omega)
      by_cases c : s2.1 1 < z7 + m.1 5
      · have h6 := h6.1 c
        have h7 := h7.1 c
        by_cases g : z2 = 0
        · exact ⟨_, v, h6.2 g, h7.2 g, NB_2 ev e5⟩
        · exact ⟨_, v, h6.1 g, h7.1 g, NB_2 ev e5⟩
      · have := q_nlt c
        obtain ⟨u, h6, h7, ⟨u2, u1⟩, um⟩ := sm_asks (m0 := m) (v := v) (by rw [eg]; exact hf) hD (by rw [eg]; exact hB) hx (by rw [ev]) h1 ⟨h0, by omega⟩ (by decide) (by omega) (by rw [e0]; omega) hs (h6.2 c) (h7.2 c)
        have h6 := um _ h6
        have u2' := u2.trans ev
        have u1' : ie [3, 4] u.1 m.1 := ie_tr u1 (fun _ h => h) e5
        by_cases g1 : z4 = -1
        · exact ih n7 u _ _ _ (z7 + 1) u2' u1' (by omega) (by omega) (h6.1 g1) (h7.1 g1)
        · have h6 := h6.2 g1
          have h7 := h7.2 g1
          by_cases g2 : u.1 4 < z6
          · have := q_lt g2
            have h7 := (h7.2 (fun q => by have := q_lt q; omega)).1 (fun q => by have := q_eq q; omega)
            exact ih n7 u _ _ _ (z7 + 1) u2' u1' (by omega) (by omega) (h6.1 g2) h7
          · have := q_nlt g2
            have h6 := h6.2 g2
            by_cases g3 : u.1 4 = z6
            · have h6 := h6.2 g3
              have h7 := (h7.2 (fun q => by have := q_lt q; have := q_eq g3; omega)).2 g3
              by_cases g4 : z5 ≤ u.1 3
              · have := q_le g4
                exact ih n7 u _ _ _ (z7 + 1) u2' u1' (by omega) (by omega) (h6.1 g4) (h7.2 (fun q => by have := q_lt q; omega))
              · have := q_nle g4
                exact ih n7 u _ _ _ (z7 + 1) u2' u1' (by omega) (by omega) (h6.2 g4) (h7.1 (Int32.lt_iff_toInt_lt.mpr (by omega)))
            · have n3 : ¬ (u.1 4).toInt = z6.toInt := fun q => g3 (Int32.toInt_inj.mp q)
              exact ih n7 u _ _ _ (z7 + 1) u2' u1' (by omega) (by omega) (h6.1 g3) (h7.1 (Int32.lt_iff_toInt_lt.mpr (by omega)))
theorem sm_place {P6 : Int32 → Prop} {P7 : Int32 → Md → Prop} {s1 : Tp} {s2 : Bd} {m : Md} {x1 x2 : Int32} {N R W D : Int} (hx : RX s1 m) (hB : RB s2 (m.2.2.1 0)) (hM : mb N R W D m) (hs : R ≤ 0 ∨ 0 < D) (h6 : wp_X6_place P6 s1 s2 x1 x2) (h7 : wp_X7_place P7 m x1 x2) : ∃ r m', P6 r ∧ P7 r m' ∧ NB m m' := by
  have e0 : (0 : Int32).toInt = 0 := rfl
  have e1 : (1 : Int32).toInt = 1 := rfl
  have hf := hM.2.2.2.2.1
  have hR := hf.2.2.2.2.2.1
  have rc := RB_cells hf hB
  have sz : s1.1 0 = m.1 5 := hx.1
  have bx := hx.2.2
  have fl : ∀ r, P6 r → P7 r m → ∃ r m', P6 r ∧ P7 r m' ∧ NB m m' := fun r a b => ⟨r, m, a, b, NB_rf m⟩
  unfold wp_X6_place at h6
  unfold wp_X7_place at h7
  rw [sz] at h6
  rcases e0_hasRow h6 with ⟨h6, g1, g2⟩ | ⟨h6, g⟩
  · rcases e7_isRow hf h7 with ⟨h7, _, _⟩ | ⟨_, g⟩
    · have h6 := h6.2 (by decide)
      have hD : 0 < D := by omega
      rcases e7_inC (i := 0) (j := 1) rfl rfl (h7.2 (by decide)) with ⟨h7, j1, j2⟩ | ⟨h7, j⟩
      · have h6 := (h6.2 (fun c => by have := q_lt c; omega)).1 (Int32.le_iff_toInt_le.mpr (by omega))
        have h7 := h7.1 (by decide)
        by_cases c0 : m.1 5 = 0
        · exact fl _ (h6.1 c0) (h7.1 c0)
        · have n0 : ¬ (m.1 5).toInt = 0 := fun q => c0 (Int32.toInt_inj.mp (q.trans e0.symm))
          rcases e6_isRowText hx (q := 0) (by decide) (by rw [e0]; omega) (h6.2 c0) with ⟨h6, k1, k2⟩ | ⟨h6, k⟩
          · rcases e7_isRowText (m := m) hf hx rfl (by omega) (h7.2 c0) with ⟨h7, _⟩ | ⟨_, k⟩
            · obtain ⟨n6, h6⟩ := h6.1 (by decide)
              obtain ⟨n7, h7⟩ := h7.1 (by decide)
              exact sm_place_L hf hD hB hx ⟨g1, by omega⟩ ⟨by omega, by omega⟩ k2 n6 n7 m (-1) 0 0 0 rfl (ie_refl _ _) (by decide) (by rw [e0]; omega) h6 h7
            · exact (k ⟨by omega, k2⟩).elim
          · rcases e7_isRowText (m := m) hf hx rfl (by omega) (h7.2 c0) with ⟨_, k1, k2⟩ | ⟨h7, _⟩
            · exact (k ⟨by omega, k2⟩).elim
            · exact fl _ (h6.2 rfl) (h7.2 rfl)
      · by_cases c : x2 < 0
        · exact fl _ (h6.1 c) (h7.2 rfl)
        · have := q_nlt c
          exact fl _ ((h6.2 c).2 (fun c => by have := q_le c; omega)) (h7.2 rfl)
    · omega
  · rcases e7_isRow hf h7 with ⟨_, _, _⟩ | ⟨h7, _⟩
    · omega
    · exact fl _ (h6.1 rfl) (h7.1 rfl)
