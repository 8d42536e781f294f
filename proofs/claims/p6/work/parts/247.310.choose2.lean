/-! The class's choice, all of it. -/
theorem n0x (d : Nat) : ¬ ((0 : Int32) = -1 ∨ (d : Int) < (0 : Int32).toInt) := by
  rintro (g | g)
  · have := congrArg Int32.toInt g
    have k : ¬ (0 : Int32).toInt = (-1 : Int32).toInt := by decide
    exact k this
  · have e0 : (0 : Int32).toInt = 0 := rfl
    rw [e0] at g
    omega
theorem e2_choose_L {f : Nat → Int64} {b : Bd} {u0 : Mo} {R W D : Int} {z2 : Int32} {P : Mo → Prop} (hf : rw_ok R W D f) (hD : 0 < D) (hB : RB b f) (hS : SRT (R * W).toNat (LE f) u0 z2 (-1)) : ∀ (n : Nat) (t : Mo) (z3 : Int32) (k : Nat) (A T : Nat → Bool), CI f R W u0 t k A T → AS (R * W).toNat (LE f) A z3.toInt 0 → 0 ≤ z3.toInt → z3.toInt ≤ 39 → wp_X2_choose_L18 b P (fun t0 z2 z3 => P t0) n t z2 z3 → ∃ t' k' A' T', P t' ∧ CI f R W u0 t' k' A' T' ∧ CP (R * W).toNat (LE f) (f 2).toInt A' (t'.1 1).toInt := by
  have hR := hf.2.2.2.2.2.1
  have rc := RB_cells hf hB
  have e0 : (0 : Int32).toInt = 0 := rfl
  have em : (-1 : Int32).toInt = -1 := rfl
  intro n
  induction n with
  | zero =>
    intro t z3 k A T _ _ _ _ h
    exact (show False from h).elim
  | succ n ih =>
    intro t z3 k A T hI hA h0 h1 h
    unfold wp_X2_choose_L18 at h
    by_cases c : z3 ≤ 0
    · have := q_le c
      exact ⟨t, k, A, T, h.1 c, hI, Or.inl (fun d d1 d2 => (hA d d1 d2).mpr (Or.inl (by omega)))⟩
    · have := q_nle c
      have h := h.2 c
      by_cases c2 : b.1 2 ≤ t.1 1
      · have := q_le c2
        exact ⟨t, k, A, T, h.1 c2, hI, Or.inr (by omega)⟩
      · obtain ⟨n4, h⟩ := (h.2 c2).2
        have a := tq_add z3 (-1)
        rw [em] at a
        generalize hw : z3 + (-1) = w at a
        have a := nw a (by omega)
        have mn := hS.1 z3.toInt.toNat (by omega) (by omega)
        have zc : ((z3.toInt.toNat : Nat) : Int) = z3.toInt := by omega
        rw [zc, ← hI.1] at mn
        rw [tn_i] at h
        have hA2 : AS (R * W).toNat (LE f) A z3.toInt (t.2 0 z3.toInt.toNat) := by
          intro d d1 d2
          rw [hA d d1 d2]
          constructor
          · rintro (g | ⟨g1, g2⟩)
            · exact Or.inl g
            · exfalso
              exact n0x d g2
          · rintro (g | ⟨g1, g2⟩)
            · exact Or.inl g
            · exfalso
              rcases mn with ⟨m1, m2⟩ | ⟨m1, m2, m3, m4, m5⟩
              · exact m2 d (by omega) d1 g1
              · have := m5 d (by omega) d1 g1
                rcases g2 with g2 | g2
                · rw [g2, em] at m2
                  omega
                · omega
        have h4 : t.2 0 z3.toInt.toNat = -1 ∨ ((0 : Int32).toInt ≤ (t.2 0 z3.toInt.toNat).toInt ∧ (t.2 0 z3.toInt.toNat).toInt < R * W ∧ LE f (t.2 0 z3.toInt.toNat).toInt.toNat = z3.toInt) := by
          rcases mn with ⟨m1, _⟩ | ⟨m1, m2, m3, m4, _⟩
          · exact Or.inl m1
          · exact Or.inr ⟨by rw [e0]; exact m2, by omega, m4⟩
        obtain ⟨t', z5', k', A', T', g1, g2, g3⟩ := e2_chain_L hf hD hB (fun c c1 c2 => hS.2.1 c (by omega) c1 c2) (by omega) n4 t (t.2 0 z3.toInt.toNat) 0 k A T hI hA2 (by decide) h4 h
        have g1 : wp_X2_choose_L18 b P (fun t0 z2 z3 => P t0) n t' z2 (z3 + (-1)) := g1
        rw [hw] at g1
        refine ih t' w k' A' T' g2 (fun d d1 d2 => ?_) (by omega) (by omega) g1
        rw [g3 d d1 d2]
        constructor
        · rintro (g | ⟨g, _⟩)
          · exact Or.inl (by omega)
          · exact Or.inl (by omega)
        · rintro (g | ⟨g1, g2⟩)
          · by_cases q : z3.toInt < LE f d
            · exact Or.inl q
            · exact Or.inr ⟨by omega, Or.inl rfl⟩
          · exfalso
            exact n0x d g2
/-- what choose gives: the greedy choice, as a list without repetition -/
def FC (f : Nat → Int64) (R W : Int) (t : Mo) : Prop := ∃ k A T, CHS T t ∧ PR (R * W).toNat (LE f) (CU f) (f 2).toInt k A T (t.1 0).toInt.toNat (t.1 1).toInt ∧ CP (R * W).toNat (LE f) (f 2).toInt A (t.1 1).toInt
theorem e2_choose {P : Mo → Prop} {f : Nat → Int64} {b : Bd} {t : Mo} {R W D : Int} (hf : rw_ok R W D f) (hD : 0 < D) (hB : RB b f) (h : wp_X2_choose P t b) : ∃ u, P u ∧ ie [0, 1] u.1 t.1 ∧ FC f R W u := by
  unfold wp_X2_choose at h
  have e0 : (0 : Int32).toInt = 0 := rfl
  obtain ⟨r, u, h, u1, u2, hS⟩ := e2_sort hf hD hB h
  obtain ⟨n, h⟩ := h
  have u10 : u.1 0 = 0 := by rw [u1]; rfl
  have u11 : u.1 1 = 0 := by rw [u1]; rfl
  have hI : CI f R W u u 0 (fun _ => false) (fun _ => false) := by
    refine ⟨rfl, rfl, ⟨by rw [u10]; decide, fun j hj => ?_, fun i hi => (by cases hi), fun i j _ hj => ?_⟩, by rw [u11]; decide, ie_refl _ _, ?_⟩
    · rw [u10] at hj
      omega
    · rw [u10] at hj
      omega
    · rw [u10, u11]
      exact PR_nil
  obtain ⟨t', k', A', T', g1, g2, g3⟩ := e2_choose_L hf hD hB hS n u r 0 _ _ hI (fun d d1 d2 => by
    constructor
    · intro g
      cases g
    · rintro (g | ⟨_, g2 | g2⟩)
      · have := hS.2.2.1 d (by omega) d1
        omega
      · exact (n0x d (Or.inl g2)).elim
      · exact (n0x d (Or.inr g2)).elim) hS.2.2.2.1 hS.2.2.2.2 h
  refine ⟨t', g1, ?_, k', A', T', g2.2.2.1, g2.2.2.2.2.2, g3⟩
  have q := g2.2.2.2.2.1
  rw [u1] at q
  exact ie_tr q (by decide) (ie_up (ie_up (ie_refl _ _) (by decide)) (by decide))
