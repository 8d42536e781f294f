/-! The reference's choice is the greedy one. -/
def BI (L : Nat → Int) (A : Nat → Bool) (z4 z5 : Int32) : Prop := (z4 = -1 ∧ ∀ c : Nat, (c : Int) < z5.toInt → 0 < L c → A c = true) ∨ (0 ≤ z4.toInt ∧ z4.toInt < z5.toInt ∧ 0 < L z4.toInt.toNat ∧ A z4.toInt.toNat = false ∧ ∀ d : Nat, (d : Int) < z5.toInt → 0 < L d → A d = false → bf L z4.toInt.toNat d)
theorem e7_best_L {R W D : Int} {s : Md} {w : Int64} {z3 : Int32} {p7 : Md → Prop} {e7 : Md → Int64 → Int32 → Int32 → Int32 → Prop} (hf : rw_ok R W D (s.2.2.1 0)) (hD : 0 < D) : ∀ (n : Nat) (z4 z5 : Int32), 0 ≤ z5.toInt → z5.toInt ≤ R * W → BI (LE (s.2.2.1 0)) (bs_at w) z4 z5 → wp_X7_findsTurning_L33 p7 e7 n s w z3 z4 z5 → ∃ z4' z5', e7 s w z3 z4' z5' ∧ ((z4' = -1 ∧ ∀ c : Nat, (c : Int) < R * W → 0 < LE (s.2.2.1 0) c → bs_at w c = true) ∨ (0 ≤ z4'.toInt ∧ NX (R * W).toNat (LE (s.2.2.1 0)) (bs_at w) z4'.toInt.toNat)) := by
  have hR := hf.2.2.2.2.2.1
  have rn := rw_n hf
  have e1 : (1 : Int32).toInt = 1 := rfl
  have e0 : (0 : Int32).toInt = 0 := rfl
  have em : (-1 : Int32).toInt = -1 := rfl
  intro n
  induction n with
  | zero =>
    intro z4 z5 _ _ _ h
    exact (show False from h).elim
  | succ n ih =>
    intro z4 z5 h0 h1 hI h
    unfold wp_X7_findsTurning_L33 at h
    have h := cells7_e h
    by_cases c : Int64.toInt32 (s.2.2.1 0 0) * Int64.toInt32 (s.2.2.1 0 1) ≤ z5
    · have := q_le c
      have ez : z5.toInt = R * W := by omega
      refine ⟨z4, z5, h.1 c, ?_⟩
      rcases hI with ⟨a, b⟩ | ⟨a1, a2, a3, a4, a5⟩
      · exact Or.inl ⟨a, fun k hk => b k (by omega)⟩
      · exact Or.inr ⟨a1, by omega, a3, a4, fun d hd => a5 d (by omega)⟩
    · have c1 := q_nle c
      have a := nw (tq_addr e1 z5) (by omega)
      have kz : ∀ k : Nat, (k : Int) < (z5 + 1).toInt → ¬ k = z5.toInt.toNat → (k : Int) < z5.toInt := fun k h g => by omega
      rcases e7_isIn (by omega) (h.2 c) with ⟨h, b⟩ | ⟨h, b⟩
      · refine ih z4 (z5 + 1) (by omega) (by omega) ?_ (h.1 (by decide))
        rcases hI with ⟨a, k⟩ | ⟨a1, a2, a3, a4, a5⟩
        · refine Or.inl ⟨a, fun i hi hl => ?_⟩
          by_cases g : i = z5.toInt.toNat
          · rw [g]
            exact b
          · exact k i (kz i hi g) hl
        · refine Or.inr ⟨a1, by omega, a3, a4, fun i hi hl ha => ?_⟩
          by_cases g : i = z5.toInt.toNat
          · rw [g, b] at ha
            cases ha
          · exact a5 i (kz i hi g) hl ha
      · obtain ⟨r, h, er⟩ := e7_leftOf hf hD h0 (by omega) (h.2 rfl)
        by_cases c2 : r ≤ 0
        · have := q_le c2
          refine ih z4 (z5 + 1) (by omega) (by omega) ?_ (h.1 c2)
          rcases hI with ⟨a, k⟩ | ⟨a1, a2, a3, a4, a5⟩
          · refine Or.inl ⟨a, fun i hi hl => ?_⟩
            by_cases g : i = z5.toInt.toNat
            · rw [g] at hl
              omega
            · exact k i (kz i hi g) hl
          · refine Or.inr ⟨a1, by omega, a3, a4, fun i hi hl ha => ?_⟩
            by_cases g : i = z5.toInt.toNat
            · rw [g] at hl
              omega
            · exact a5 i (kz i hi g) hl ha
        · have := q_nle c2
          have h := h.2 c2
          by_cases c3 : z4 = -1
          · refine ih z5 (z5 + 1) (by omega) (by omega) ?_ (h.1 c3)
            rcases hI with ⟨a, k⟩ | ⟨a1, _⟩
            · refine Or.inr ⟨h0, by omega, by omega, b, fun i hi hl ha => ?_⟩
              by_cases g : i = z5.toInt.toNat
              · rw [g]
                exact Or.inr ⟨rfl, Nat.le_refl _⟩
              · rw [k i (kz i hi g) hl] at ha
                cases ha
            · rw [c3, em] at a1
              omega
          · rcases hI with ⟨a, _⟩ | ⟨a1, a2, a3, a4, a5⟩
            · exact (c3 a).elim
            · obtain ⟨r1, h, er1⟩ := e7_leftOf hf hD h0 (by omega) (h.2 c3)
              obtain ⟨r2, h, er2⟩ := e7_leftOf hf hD a1 (by omega) h
              by_cases c4 : r1 ≤ r2
              · have := q_le c4
                refine ih z4 (z5 + 1) (by omega) (by omega) (Or.inr ⟨a1, by omega, a3, a4, fun i hi hl ha => ?_⟩) (h.1 c4)
                by_cases g : i = z5.toInt.toNat
                · rw [g]
                  unfold bf
                  omega
                · exact a5 i (kz i hi g) hl ha
              · have := q_nle c4
                refine ih z5 (z5 + 1) (by omega) (by omega) (Or.inr ⟨h0, by omega, by omega, b, fun i hi hl ha => ?_⟩) (h.2 c4)
                by_cases g : i = z5.toInt.toNat
                · rw [g]
                  exact Or.inr ⟨rfl, Nat.le_refl _⟩
                · have k := a5 i (kz i hi g) hl ha
                  unfold bf at k ⊢
                  omega
theorem lim_c {t c : Int32} {y : Int64} (h1 : -1000 ≤ t.toInt ∧ t.toInt ≤ 1000) (h2 : -1000 ≤ c.toInt ∧ c.toInt ≤ 1000) : (lg_cmp (Int32.toInt64 (t + c)) y ≤ 0) ↔ t.toInt + c.toInt ≤ y.toInt := by
  have a := nw (tq_add t c) (by omega)
  have b := tq_64 (t + c)
  rw [lg_cmp_le, Int64.le_iff_toInt_le, b, a]
def FD (f : Nat → Int64) (R W : Int) (v : Md) : Prop := 0 ≤ (v.1 1).toInt ∧ ∃ k A, PR (R * W).toNat (LE f) (CU f) (f 2).toInt k A (bs_at v.2.1) (v.1 1).toInt.toNat (v.1 2).toInt ∧ CP (R * W).toNat (LE f) (f 2).toInt A (v.1 2).toInt
theorem bs_ad {y : Int64} {z : Int32} (hz : 0 ≤ z.toInt ∧ z.toInt < 40) : bs_at (y ||| ((1 : Int64) <<< (Int32.toInt64 z &&& 63))) = ad (bs_at y) z.toInt.toNat := by
  funext k
  rw [bs_or hz]
  unfold ad
  by_cases e : k = z.toInt.toNat
  · rw [decide_eq_true e, decide_eq_true e.symm]
  · rw [decide_eq_false e, decide_eq_false (fun g => e g.symm)]
theorem e7_finds_L {f : Nat → Int64} {b : Bd} {R W D : Int} {p7 : Md → Prop} (hf : rw_ok R W D f) (hD : 0 < D) (hB : RB b f) : ∀ (n : Nat) (s : Md) (w : Int64) (z : Int32), s.2.2.1 0 = f → 0 ≤ z.toInt → z.toInt ≤ R * W → 0 ≤ (s.1 1).toInt → (s.1 1).toInt ≤ z.toInt → 0 ≤ (s.1 2).toInt → PR (R * W).toNat (LE f) (CU f) (f 2).toInt z.toInt.toNat (bs_at w) (bs_at s.2.1) (s.1 1).toInt.toNat (s.1 2).toInt → wp_X7_findsTurning_L19 p7 (fun t0 w1 z3 => p7 t0) n s w z → ∃ v, p7 v ∧ ie [1, 2] v.1 s.1 ∧ v.2.2.1 = s.2.2.1 ∧ v.2.2.2 = s.2.2.2 ∧ FD f R W v := by
  have hR := hf.2.2.2.2.2.1
  have hL := hf.2.2.2.2.1
  have rn := rw_n hf
  have e1 : (1 : Int32).toInt = 1 := rfl
  have em : (-1 : Int32).toInt = -1 := rfl
  have t2 : Int32.toNatClampNeg 2 = 2 := rfl
  intro n
  induction n with
  | zero =>
    intro s w z _ _ _ _ _ _ _ h
    exact (show False from h).elim
  | succ n ih =>
    intro s w z hs h0 h1 m0 m1 u0 hp h
    have pb := PR_b (by omega) hp
    unfold wp_X7_findsTurning_L19 at h
    have h := cells7_e h
    rw [hs] at h
    by_cases c : Int64.toInt32 (f 0) * Int64.toInt32 (f 1) ≤ z
    · have := q_le c
      refine ⟨s, h.1 c, ie_refl _ _, rfl, rfl, m0, _, _, hp, Or.inl (fun k hk _ => ?_)⟩
      exact ct_all _ ((PR_ct hp).1.trans (by omega)) k hk
    · have c1 := q_nle c
      have a := nw (tq_addr e1 z) (by omega)
      obtain ⟨n3, h⟩ := h.2 c
      obtain ⟨z4, z5, h, g⟩ := e7_best_L (R := R) (W := W) (D := D) (by rw [hs]; exact hf) hD n3 (-1) 0 (by decide) (by show (0 : Int) ≤ _; omega) (Or.inl ⟨rfl, fun c hc => by have : (0 : Int32).toInt = 0 := rfl; omega⟩) h
      rw [hs] at g
      rcases g with ⟨g1, g2⟩ | ⟨g1, g2⟩
      · exact ⟨s, h.2 g1, ie_refl _ _, rfl, rfl, m0, _, _, hp, Or.inl (fun k hk hl => g2 k (by omega) hl)⟩
      · have n1 : ¬ z4 = -1 := fun e => by rw [e, em] at g1; omega
        have hz4 : z4.toInt < R * W := by have := g2.1; omega
        obtain ⟨r, h, er⟩ := e7_current (s := s) (b := b) (by rw [hs]; exact hf) hD (by rw [hs]; exact hB) g1 hz4 (h.1 n1)
        rw [hs] at er
        have cb := CU_b hf hD hB (c := z4.toInt.toNat) (by omega)
        rw [t2, hs] at h
        have lc := lim_c (t := s.1 2) (c := r) (y := f 2) (by omega) (by omega)
        by_cases c2 : lg_cmp (Int32.toInt64 (s.1 2 + r)) (f 2) ≤ 0
        · have k := lc.mp c2
          obtain ⟨r2, h, er2⟩ := e7_current (s := ((va_up s.1 1 ((s.1 1) + 1)), (s.2.1 ||| ((1 : Int64) <<< (Int32.toInt64 z4 &&& 63))), s.2.2.1, s.2.2.2)) (b := b) (by show rw_ok R W D (s.2.2.1 0); rw [hs]; exact hf) hD (by show RB b (s.2.2.1 0); rw [hs]; exact hB) g1 hz4 (h.1 c2)
          have er2 : r2.toInt = CU (s.2.2.1 0) z4.toInt.toNat := er2
          rw [hs] at er2
          have a1 := nw (tq_addr e1 (s.1 1)) (by omega)
          have a2 := nw (tq_add (s.1 2) r2) (by omega)
          obtain ⟨v, p, v1, v2, v3, v4⟩ := ih ((va_up (va_up s.1 1 ((s.1 1) + 1)) 2 ((s.1 2) + r2)), (s.2.1 ||| ((1 : Int64) <<< (Int32.toInt64 z4 &&& 63))), s.2.2.1, s.2.2.2) (w ||| ((1 : Int64) <<< (Int32.toInt64 z4 &&& 63))) (z + 1) hs (by omega) (by omega) (by show 0 ≤ (s.1 1 + 1).toInt; omega) (by show (s.1 1 + 1).toInt ≤ _; omega) (by show 0 ≤ (s.1 2 + r2).toInt; omega) (by
            show PR _ _ _ _ (z + 1).toInt.toNat (bs_at (w ||| _)) (bs_at (s.2.1 ||| _)) (s.1 1 + 1).toInt.toNat (s.1 2 + r2).toInt
            rw [bs_ad (by omega), bs_ad (by omega), a, a1, a2, er2]
            have e3 : (z.toInt + 1).toNat = z.toInt.toNat + 1 := by omega
            have e4 : ((s.1 1).toInt + 1).toNat = (s.1 1).toInt.toNat + 1 := by omega
            rw [e3, e4]
            exact PR_take hp g2 (by omega)) h
          exact ⟨v, p, ie_tr v1 (by decide) (ie_up (ie_up (ie_refl _ _) (by decide)) (by decide)), v2, v3, v4⟩
        · have k : ¬ ((s.1 2).toInt + r.toInt ≤ (f 2).toInt) := fun g => c2 (lc.mpr g)
          refine ih s (w ||| ((1 : Int64) <<< (Int32.toInt64 z4 &&& 63))) (z + 1) hs (by omega) (by omega) m0 (by omega) u0 (by
            rw [bs_ad (by omega), a]
            have e3 : (z.toInt + 1).toNat = z.toInt.toNat + 1 := by omega
            rw [e3]
            exact PR_skip hp g2 (by omega)) (h.2 c2)
theorem e7_finds {P : Md → Prop} {s : Md} {b : Bd} {R W D : Int} (hf : rw_ok R W D (s.2.2.1 0)) (hD : 0 < D) (hB : RB b (s.2.2.1 0)) (h : wp_X7_findsTurning P s) : ∃ v, P v ∧ ie [1, 2] v.1 s.1 ∧ v.2.2.1 = s.2.2.1 ∧ v.2.2.2 = s.2.2.2 ∧ FD (s.2.2.1 0) R W v := by
  have hR := hf.2.2.2.2.2.1
  unfold wp_X7_findsTurning at h
  obtain ⟨n, h⟩ := h
  have z : bs_at 0 = fun _ => false := funext bs_0
  have e0 : (0 : Int32).toInt = 0 := rfl
  obtain ⟨v, p, v1, v2, v3, v4⟩ := e7_finds_L hf hD hB n ((va_up (va_up s.1 1 0) 2 0), 0, s.2.2.1, s.2.2.2) 0 0 rfl (by decide) (by rw [e0]; omega) (by show 0 ≤ (0 : Int32).toInt; decide) (by show (0 : Int32).toInt ≤ (0 : Int32).toInt; decide) (by show 0 ≤ (0 : Int32).toInt; decide) (by
    show PR _ _ _ _ 0 (bs_at 0) (bs_at 0) 0 0
    rw [z]
    exact PR_nil) h
  exact ⟨v, p, ie_tr v1 (by decide) (ie_up (ie_up (ie_refl _ _) (by decide)) (by decide)), v2, v3, v4⟩
