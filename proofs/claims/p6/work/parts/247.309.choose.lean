/-! The class's choice is the greedy one. -/
def CHS (T : Nat → Bool) (t : Mo) : Prop := 0 ≤ (t.1 0).toInt ∧ (∀ j : Nat, (j : Int) < (t.1 0).toInt → 0 ≤ (t.2 2 j).toInt ∧ T (t.2 2 j).toInt.toNat = true) ∧ (∀ i, T i = true → ∃ j : Nat, (j : Int) < (t.1 0).toInt ∧ (t.2 2 j).toInt = (i : Int)) ∧ (∀ i j : Nat, i < j → (j : Int) < (t.1 0).toInt → ¬ t.2 2 i = t.2 2 j)
def AS (n : Nat) (L : Nat → Int) (A : Nat → Bool) (l : Int) (y : Int32) : Prop := ∀ c : Nat, c < n → 0 < L c → (A c = true ↔ (l < L c ∨ (L c = l ∧ (y = -1 ∨ (c : Int) < y.toInt))))
theorem CHS_ad {T : Nat → Bool} {t : Mo} {c r : Int32} (h : CHS T t) (hm : (t.1 0).toInt < 40) (h0 : 0 ≤ c.toInt) (hc : T c.toInt.toNat = false) : CHS (ad T c.toInt.toNat) ((va_up (va_up t.1 0 ((t.1 0) + 1)) 1 r), (va_up t.2 2 (upd (t.2 2) (t.1 0).toInt.toNat c))) := by
  have e1 : (1 : Int32).toInt = 1 := rfl
  obtain ⟨a, b, d, e⟩ := h
  have s := nw (tq_addr e1 (t.1 0)) (by omega)
  have k0 : (((va_up (va_up t.1 0 ((t.1 0) + 1)) 1 r), (va_up t.2 2 (upd (t.2 2) (t.1 0).toInt.toNat c))) : Mo).1 0 = t.1 0 + 1 := rfl
  have k2 : (((va_up (va_up t.1 0 ((t.1 0) + 1)) 1 r), (va_up t.2 2 (upd (t.2 2) (t.1 0).toInt.toNat c))) : Mo).2 2 = upd (t.2 2) (t.1 0).toInt.toNat c := rfl
  unfold CHS
  rw [k0, k2, s]
  have ae : ad T c.toInt.toNat c.toInt.toNat = true := by unfold ad; rw [decide_eq_true rfl, Bool.or_true]
  have al : ∀ i, T i = true → ad T c.toInt.toNat i = true := fun i h => by unfold ad; rw [h]; rfl
  refine ⟨by omega, fun j hj => ?_, fun i hi => ?_, fun i j hij hj => ?_⟩
  · by_cases g : j = (t.1 0).toInt.toNat
    · rw [g, up_e]
      exact ⟨h0, ae⟩
    · rw [up_n g]
      exact ⟨(b j (by omega)).1, al _ (b j (by omega)).2⟩
  · unfold ad at hi
    rcases Bool.or_eq_true_iff.mp hi with g | g
    · obtain ⟨j, j1, j2⟩ := d i g
      exact ⟨j, by omega, by rw [up_n (by omega)]; exact j2⟩
    · have := of_decide_eq_true g
      exact ⟨(t.1 0).toInt.toNat, by omega, by rw [up_e]; omega⟩
  · by_cases g : j = (t.1 0).toInt.toNat
    · rw [g, up_e, up_n (by omega)]
      intro q
      have k := (b i (by omega)).2
      rw [q, hc] at k
      cases k
    · rw [up_n g, up_n (by omega)]
      exact e i j hij (by omega)
def CI (f : Nat → Int64) (R W : Int) (u0 t : Mo) (k : Nat) (A T : Nat → Bool) : Prop := t.2 0 = u0.2 0 ∧ t.2 1 = u0.2 1 ∧ CHS T t ∧ 0 ≤ (t.1 1).toInt ∧ ie [0, 1] t.1 u0.1 ∧ PR (R * W).toNat (LE f) (CU f) (f 2).toInt k A T (t.1 0).toInt.toNat (t.1 1).toInt
theorem e2_chain_L {f : Nat → Int64} {b : Bd} {u0 : Mo} {R W D : Int} {z2 z3 : Int32} {p6 : Mo → Prop} {e6 : Mo → Int32 → Int32 → Int32 → Int32 → Prop} (hf : rw_ok R W D f) (hD : 0 < D) (hB : RB b f) (hS : ∀ c : Nat, c < (R * W).toNat → 0 < LE f c → MN (R * W).toNat (LE f) (c : Int) (LE f c) (u0.2 1 c)) (hz : 1 ≤ z3.toInt) : ∀ (n : Nat) (t : Mo) (z4 z5 : Int32) (k : Nat) (A T : Nat → Bool), CI f R W u0 t k A T → AS (R * W).toNat (LE f) A z3.toInt z4 → 0 ≤ z5.toInt → (z4 = -1 ∨ (z5.toInt ≤ z4.toInt ∧ z4.toInt < R * W ∧ LE f z4.toInt.toNat = z3.toInt)) → wp_X2_choose_L44 b p6 e6 n t z2 z3 z4 z5 → ∃ t' z5' k' A' T', e6 t' z2 z3 (-1) z5' ∧ CI f R W u0 t' k' A' T' ∧ AS (R * W).toNat (LE f) A' z3.toInt (-1) := by
  have hR := hf.2.2.2.2.2.1
  have hL := hf.2.2.2.2.1
  have rc := RB_cells hf hB
  have e1 : (1 : Int32).toInt = 1 := rfl
  have em : (-1 : Int32).toInt = -1 := rfl
  have e40 : (40 : Int32).toInt = 40 := rfl
  intro n
  induction n with
  | zero =>
    intro t z4 z5 k A T _ _ _ _ h
    exact (show False from h).elim
  | succ n ih =>
    intro t z4 z5 k A T hI hA h5 h4 h
    unfold wp_X2_choose_L44 at h
    by_cases c4 : z4 = -1
    · subst c4
      by_cases c : 40 ≤ z5
      · exact ⟨t, z5, k, A, T, h.1 c, hI, hA⟩
      · exact ⟨t, z5, k, A, T, (h.2 c).1 rfl, hI, hA⟩
    · rcases h4 with h4 | ⟨h4, h6, h7⟩
      · exact (c4 h4).elim
      · have c : ¬ 40 ≤ z5 := fun g => by have := q_le g; omega
        have h := (h.2 c).2 c4
        obtain ⟨i1, i2, i3, i4, i5, i6⟩ := id hI
        have pb := PR_b (by omega) i6
        have pc := PR_ct i6
        obtain ⟨r, h, er⟩ := e0_currentOf hf hD hB (by omega) h6 h
        have cb := CU_b hf hD hB (c := z4.toInt.toNat) (by omega)
        have a5 := nw (tq_addr e1 z5) (by omega)
        have ac := nw (tq_add (t.1 1) r) (by omega)
        have fA : A z4.toInt.toNat = false := by
          cases q : A z4.toInt.toNat with
          | false => rfl
          | true =>
            have k := (hA z4.toInt.toNat (by omega) (by omega)).mp q
            rcases k with k | ⟨_, k | k⟩
            · omega
            · exact (c4 k).elim
            · omega
        have fT : T z4.toInt.toNat = false := by
          cases q : T z4.toInt.toNat with
          | false => rfl
          | true =>
            rw [pb.2.1 _ q] at fA
            cases fA
        have nx : NX (R * W).toNat (LE f) A z4.toInt.toNat := by
          refine ⟨by omega, by omega, fA, fun d d1 d2 d3 => ?_⟩
          have k : ¬ (z3.toInt < LE f d ∨ (LE f d = z3.toInt ∧ (z4 = -1 ∨ (d : Int) < z4.toInt))) := fun g => by
            rw [(hA d d1 d2).mpr g] at d3
            cases d3
          unfold bf
          by_cases g : LE f d = z3.toInt
          · have : ¬ (d : Int) < z4.toInt := fun q => k (Or.inr ⟨g, Or.inr q⟩)
            omega
          · have : ¬ z3.toInt < LE f d := fun q => k (Or.inl q)
            omega
        have mn := hS z4.toInt.toNat (by omega) (by omega)
        rw [h7] at mn
        have zc : ((z4.toInt.toNat : Nat) : Int) = z4.toInt := by omega
        rw [zc, ← i2] at mn
        have hA' : AS (R * W).toNat (LE f) (ad A z4.toInt.toNat) z3.toInt (t.2 1 z4.toInt.toNat) := by
          intro d d1 d2
          unfold ad
          have q := hA d d1 d2
          rw [Bool.or_eq_true, q]
          constructor
          · rintro (g | g)
            · rcases g with g | ⟨g1, g2⟩
              · exact Or.inl g
              · refine Or.inr ⟨g1, ?_⟩
                rcases g2 with g2 | g2
                · exact (c4 g2).elim
                · rcases mn with ⟨m1, _⟩ | ⟨m1, _⟩
                  · exact Or.inl m1
                  · exact Or.inr (by omega)
            · have g := of_decide_eq_true g
              refine Or.inr ⟨by rw [g]; exact h7, ?_⟩
              rcases mn with ⟨m1, _⟩ | ⟨m1, _⟩
              · exact Or.inl m1
              · exact Or.inr (by omega)
          · rintro (g | ⟨g1, g2⟩)
            · exact Or.inl (Or.inl g)
            · by_cases e : d = z4.toInt.toNat
              · exact Or.inr (decide_eq_true e)
              · refine Or.inl (Or.inr ⟨g1, Or.inr ?_⟩)
                rcases mn with ⟨m1, m2⟩ | ⟨m1, m2, m3, m4, m5⟩
                · by_cases g : (d : Int) < z4.toInt
                  · exact g
                  · exact (m2 d (by omega) d1 g1).elim
                · by_cases g : (d : Int) < z4.toInt
                  · exact g
                  · have := m5 d (by omega) d1 g1
                    rcases g2 with g2 | g2
                    · rw [g2, em] at m2
                      omega
                    · omega
        have h4' : t.2 1 z4.toInt.toNat = -1 ∨ ((z5 + 1).toInt ≤ (t.2 1 z4.toInt.toNat).toInt ∧ (t.2 1 z4.toInt.toNat).toInt < R * W ∧ LE f (t.2 1 z4.toInt.toNat).toInt.toNat = z3.toInt) := by
          rcases mn with ⟨m1, _⟩ | ⟨m1, m2, m3, m4, _⟩
          · exact Or.inl m1
          · exact Or.inr ⟨by omega, by omega, m4⟩
        have tk : Int32.toNatClampNeg z4 = z4.toInt.toNat := tn_i z4
        rw [tk, tn_i] at h
        by_cases c2 : b.1 2 < t.1 1 + r
        · have := q_lt c2
          exact ih t (t.2 1 z4.toInt.toNat) (z5 + 1) (k + 1) (ad A z4.toInt.toNat) T ⟨i1, i2, i3, i4, i5, PR_skip i6 nx (by omega)⟩ hA' (by omega) h4' (h.1 c2).2
        · have := q_nlt c2
          have mlt : (t.1 0).toInt < 40 := by
            have q := ct_ad fT (R * W).toNat
            rw [pc.2.1, if_pos nx.1] at q
            have := ct_le (ad T z4.toInt.toNat) (R * W).toNat
            have := i3.1
            omega
          have c3 : ¬ 40 ≤ t.1 0 := fun g => by have := q_le g; omega
          have h := ((h.2 c2).2 c3).2.2
          have a0 := nw (tq_addr e1 (t.1 0)) (by have := i3.1; omega)
          refine ih ((va_up (va_up t.1 0 ((t.1 0) + 1)) 1 ((t.1 1) + r)), (va_up t.2 2 (upd (t.2 2) (t.1 0).toInt.toNat z4))) (t.2 1 z4.toInt.toNat) (z5 + 1) (k + 1) (ad A z4.toInt.toNat) (ad T z4.toInt.toNat) ⟨i1, i2, CHS_ad i3 mlt (by omega) fT, ?_, ie_up (ie_up i5 (by decide)) (by decide), ?_⟩ hA' (by omega) h4' h
          · show 0 ≤ (t.1 1 + r).toInt
            omega
          · show PR _ _ _ _ (k + 1) _ _ (t.1 0 + 1).toInt.toNat (t.1 1 + r).toInt
            have e4 : (t.1 0 + 1).toInt.toNat = (t.1 0).toInt.toNat + 1 := by have := i3.1; omega
            rw [e4, ac, er]
            exact PR_take i6 nx (by omega)
