/-! The class's chains: of each left the least cell, of each cell the next one with as much left. -/
def MN (n : Nat) (L : Nat → Int) (lo l : Int) (y : Int32) : Prop := (y = -1 ∧ ∀ c : Nat, lo < (c : Int) → c < n → ¬ L c = l) ∨ (lo < y.toInt ∧ 0 ≤ y.toInt ∧ y.toInt < (n : Int) ∧ L y.toInt.toNat = l ∧ ∀ d : Nat, lo < (d : Int) → d < n → L d = l → y.toInt ≤ (d : Int))
theorem MN_dn {n : Nat} {L : Nat → Int} {z : Nat} {l : Int} {y : Int32} (h : MN n L (z : Int) l y) (g : ¬ L z = l) : MN n L ((z : Int) - 1) l y := by
  rcases h with ⟨a, b⟩ | ⟨a1, a2, a3, a4, a5⟩
  · refine Or.inl ⟨a, fun c h1 h2 h3 => ?_⟩
    by_cases e : c = z
    · rw [e] at h3
      exact g h3
    · exact b c (by omega) h2 h3
  · refine Or.inr ⟨by omega, a2, a3, a4, fun d h1 h2 h3 => ?_⟩
    by_cases e : d = z
    · rw [e] at h3
      exact (g h3).elim
    · exact a5 d (by omega) h2 h3
def SRT (n : Nat) (L : Nat → Int) (t : Mo) (z2 : Int32) (z : Int) : Prop := (∀ l : Nat, 1 ≤ l → l < 40 → MN n L z (l : Int) (t.2 0 l)) ∧ (∀ c : Nat, z < (c : Int) → c < n → 0 < L c → MN n L (c : Int) (L c) (t.2 1 c)) ∧ (∀ c : Nat, z < (c : Int) → c < n → L c ≤ z2.toInt) ∧ 0 ≤ z2.toInt ∧ z2.toInt ≤ 39
theorem e2_sort_L {f : Nat → Int64} {b : Bd} {R W D : Int} {p6 : Int32 → Mo → Prop} {e6 : Mo → Int32 → Int32 → Prop} (hf : rw_ok R W D f) (hD : 0 < D) (hB : RB b f) : ∀ (n : Nat) (t : Mo) (z2 z : Int32), -1 ≤ z.toInt → z.toInt < R * W → SRT (R * W).toNat (LE f) t z2 z.toInt → wp_X2_sortByLeft_L17 b p6 e6 n t z2 z → ∃ u z2' z', e6 u z2' z' ∧ u.1 = t.1 ∧ (∀ k, 2 ≤ k → u.2 k = t.2 k) ∧ SRT (R * W).toNat (LE f) u z2' (-1) := by
  have hR := hf.2.2.2.2.2.1
  have e0 : (0 : Int32).toInt = 0 := rfl
  have em : (-1 : Int32).toInt = -1 := rfl
  have e40 : (40 : Int32).toInt = 40 := rfl
  intro n
  induction n with
  | zero =>
    intro t z2 z _ _ _ h
    exact (show False from h).elim
  | succ n ih =>
    intro t z2 z h0 h1 hS h
    unfold wp_X2_sortByLeft_L17 at h
    by_cases c : z < 0
    · have := q_lt c
      have ez : z.toInt = -1 := by omega
      rw [ez] at hS
      exact ⟨t, z2, z, h.1 c, rfl, fun _ _ => rfl, hS⟩
    · have c1 := q_nlt c
      have a := tq_add z (-1)
      rw [em] at a
      have a := nw a (by omega)
      obtain ⟨r, h, er⟩ := e0_leftOf hf hD hB (by omega) h1 (h.2 c)
      have lb := LE_b hf hD (c := z.toInt.toNat) (by omega)
      have zz : ((z.toInt.toNat : Nat) : Int) = z.toInt := by omega
      have za : (z + (-1)).toInt = ((z.toInt.toNat : Nat) : Int) - 1 := by omega
      obtain ⟨s1, s2, s3, s4, s5⟩ := id hS
      rw [← zz] at s1 s2 s3
      by_cases c2 : r ≤ 0
      · have := q_le c2
        refine ih t z2 (z + (-1)) (by omega) (by omega) ⟨fun l l1 l2 => ?_, fun k k1 k2 k3 => ?_, fun k k1 k2 => ?_, s4, s5⟩ (h.1 c2)
        · rw [za]
          exact MN_dn (s1 l l1 l2) (by omega)
        · by_cases e : k = z.toInt.toNat
          · rw [e] at k3
            omega
          · exact s2 k (by omega) k2 k3
        · by_cases e : k = z.toInt.toNat
          · rw [e]
            omega
          · exact s3 k (by omega) k2
      · have := q_nle c2
        have h := ((h.2 c2).2 (fun g => by have := q_le g; omega)).2.2.2
        rw [tn_i, tn_i] at h
        have S : SRT (R * W).toNat (LE f) (t.1, (va_up (va_up t.2 0 (upd (t.2 0) r.toInt.toNat z)) 1 (upd (t.2 1) z.toInt.toNat (t.2 0 r.toInt.toNat)))) (if z2 < r then r else z2) (z + (-1)).toInt := by
          refine ⟨fun l l1 l2 => ?_, fun k k1 k2 k3 => ?_, fun k k1 k2 => ?_, ?_, ?_⟩
          · show MN _ _ _ _ (upd (t.2 0) r.toInt.toNat z l)
            by_cases e : l = r.toInt.toNat
            · rw [e, up_e]
              refine Or.inr ⟨by omega, by omega, by omega, by omega, fun d h1 h2 h3 => by omega⟩
            · rw [up_n e, za]
              exact MN_dn (s1 l l1 l2) (by omega)
          · show MN _ _ _ _ (upd (t.2 1) z.toInt.toNat (t.2 0 r.toInt.toNat) k)
            by_cases e : k = z.toInt.toNat
            · subst e
              rw [up_e]
              have q := s1 r.toInt.toNat (by omega) (by omega)
              have el : ((r.toInt.toNat : Nat) : Int) = LE f z.toInt.toNat := by omega
              rw [el] at q
              exact q
            · rw [up_n e]
              exact s2 k (by omega) k2 k3
          · by_cases e : k = z.toInt.toNat
            · rw [e]
              by_cases g : z2 < r
              · rw [if_pos g]
                omega
              · have := q_nlt g
                rw [if_neg g]
                omega
            · have := s3 k (by omega) k2
              by_cases g : z2 < r
              · have := q_lt g
                rw [if_pos g]
                omega
              · rw [if_neg g]
                exact this
          · by_cases g : z2 < r
            · rw [if_pos g]
              omega
            · rw [if_neg g]
              exact s4
          · by_cases g : z2 < r
            · rw [if_pos g]
              omega
            · rw [if_neg g]
              exact s5
        obtain ⟨u, z2', z', g1, g2, g3, g4⟩ := ih (t.1, (va_up (va_up t.2 0 (upd (t.2 0) r.toInt.toNat z)) 1 (upd (t.2 1) z.toInt.toNat (t.2 0 r.toInt.toNat)))) (if z2 < r then r else z2) (z + (-1)) (by omega) (by omega) S h
        exact ⟨u, z2', z', g1, g2, fun k hk => (g3 k hk).trans (by
          show va_up _ 1 _ k = _
          rw [va_n (by omega), va_n (by omega)]), g4⟩
theorem e2_sort {P : Int32 → Mo → Prop} {f : Nat → Int64} {b : Bd} {t : Mo} {R W D : Int} (hf : rw_ok R W D f) (hD : 0 < D) (hB : RB b f) (h : wp_X2_sortByLeft P t b) : ∃ r u, P r u ∧ u.1 = t.1 ∧ (∀ k, 2 ≤ k → u.2 k = t.2 k) ∧ SRT (R * W).toNat (LE f) u r (-1) := by
  have hR := hf.2.2.2.2.2.1
  have rc := RB_cells hf hB
  have e1 : (1 : Int32).toInt = 1 := rfl
  have e0 : (0 : Int32).toInt = 0 := rfl
  unfold wp_X2_sortByLeft at h
  have h := cells6_e h
  obtain ⟨n, h⟩ := h
  have a := nw (tq_subr e1 (b.1 0 * b.1 1)) (by omega)
  have S : SRT (R * W).toNat (LE f) (t.1, (va_up t.2 0 (fl_f 40 (-1) (t.2 0)))) 0 (b.1 0 * b.1 1 - 1).toInt := by
    refine ⟨fun l l1 l2 => ?_, fun c c1 c2 _ => ?_, fun c c1 c2 => ?_, by decide, by decide⟩
    · refine Or.inl ⟨?_, fun c c1 c2 => by omega⟩
      show fl_f 40 (-1) (t.2 0) l = -1
      unfold fl_f
      rw [if_pos l2]
    · omega
    · omega
  obtain ⟨u, z2, z, g1, g2, g3, g4⟩ := e2_sort_L hf hD hB n (t.1, (va_up t.2 0 (fl_f 40 (-1) (t.2 0)))) 0 (b.1 0 * b.1 1 - 1) (by omega) (by omega) S h
  exact ⟨z2, u, g1, g2, fun k hk => (g3 k hk).trans (by
    show va_up _ 0 _ k = _
    rw [va_n (by omega)]), g4⟩
