/-! One step of a cell. -/
def bh (r n : Int32) : Int32 := if n ≤ r + 1 then 0 else r + 1
theorem bh_e {P : Int32 → Prop} {r n : Int32} (h : wp_X6_behind P r n) : P (bh r n) := by
  unfold wp_X6_behind at h
  unfold bh
  by_cases c : n ≤ r + 1
  · rw [if_pos c]
    exact h.1 c
  · rw [if_neg c]
    exact h.2 c
theorem bh_m {r n : Int32} (h : 0 ≤ r.toInt ∧ r.toInt < n.toInt ∧ n.toInt ≤ 40) : (r + 1) - (r + 1) / n * n = bh r n := by
  have e1 : (1 : Int32).toInt = 1 := rfl
  have e0 : (0 : Int32).toInt = 0 := rfl
  have a := nw (tq_addr e1 r) (by omega)
  have x := tq_64 ((r + 1) - (r + 1) / n * n)
  refine Int32.toInt_inj.mp ?_
  unfold bh
  rcases inc_m h with ⟨g, k⟩ | ⟨g, k⟩
  · rw [if_neg (fun c => by have := q_le c; omega)]
    omega
  · rw [if_pos (Int32.le_iff_toInt_le.mpr (by omega))]
    omega
theorem RB_c7 {s u : Bd} {f g : Nat → Int64} {c : Nat} (h : RB s f) (h1 : ∀ k, k < 4 → u.1 k = s.1 k) (h0 : u.2.1 0 = s.2.1 0 ∧ u.2.1 1 = s.2.1 1 ∧ u.2.1 2 = s.2.1 2) (hc : ∀ j : Nat, j < 7 → ∀ i, ¬ i = c → u.2.1 (3 + j) i = s.2.1 (3 + j) i) (hw : ∀ i, ¬ i = c → u.2.2.1 i = s.2.2.1 i) (hg : ∀ i, (i < 176 + 8 * c ∨ 176 + 8 * c + 8 ≤ i) → ¬ (4 ≤ i ∧ i < 8) → g i = f i) (hj : (∀ j : Nat, j < 7 → u.2.1 (3 + j) c = Int64.toInt32 (g (176 + 8 * c + j))) ∧ u.2.2.1 c = g (176 + 8 * c + 7) ∧ bs_at (g (176 + 8 * c + 7)) 0 = false) : RB u g := by
  obtain ⟨a, b, d⟩ := h
  have g0 : g 0 = f 0 := hg 0 (Or.inl (by omega)) (by omega)
  have g1 : g 1 = f 1 := hg 1 (Or.inl (by omega)) (by omega)
  have g2 : g 2 = f 2 := hg 2 (Or.inl (by omega)) (by omega)
  have g3 : g 3 = f 3 := hg 3 (Or.inl (by omega)) (by omega)
  refine ⟨by rw [h1 0 (by decide), h1 1 (by decide), h1 2 (by decide), h1 3 (by decide), g0, g1, g2, g3]; exact a, ⟨by rw [g3, g0, g1]; exact b.1, fun e he => ?_⟩, fun i hi => ?_⟩
  · rw [g3] at he
    have b0 := b.1
    obtain ⟨b4, b1, b2, b3⟩ := b.2 e he
    have b40 := b4.1
    have ed : d_f g e = d_f f e := by
      unfold d_f
      rw [hg _ (Or.inl (by omega)) (by omega)]
    rw [h0.1, h0.2.1, h0.2.2, ed, hg (8 + 42 * e) (Or.inl (by omega)) (by omega), hg (8 + 42 * e + 1) (Or.inl (by omega)) (by omega)]
    refine ⟨DG_k b4 (fun i h1 h2 => hg i (Or.inl (by omega)) (by omega)), b1, b2, fun k hk => ?_⟩
    rw [hg _ (Or.inl (by omega)) (by omega)]
    exact b3 k hk
  · rw [g0, g1] at hi
    by_cases q : i = c
    · rw [q]
      exact hj
    · obtain ⟨d1, d2⟩ := d i hi
      refine ⟨fun j hj => ?_, ?_⟩
      · rw [hc j hj i q, hg _ (by omega) (by omega)]
        exact d1 j hj
      · rw [hw i q, hg _ (by omega) (by omega)]
        exact d2
/-- what a step makes of a cell: shows, believes, loses, found -/
def ST (F sh be lo : Int32) : Int32 × Int32 × Int32 × Int32 := if lo ≤ 0 then (if bh sh F = 0 then (0, 0, lo, bh be F) else (bh sh F, bh be F, lo, 0)) else (sh, bh be F, lo - 1, 0)
theorem e0_stepOn {P : Int32 → Bd → Prop} {s : Bd} {f : Nat → Int64} {x : Int32} {R W D : Int} (hf : rw_ok R W D f) (hD : 0 < D) (hB : RB s f) (h0 : 0 ≤ x.toInt) (h1 : x.toInt < R * W) (h : wp_X0_stepOn P s x) : ∃ F : Int32, F.toInt = flF f x.toInt.toNat ∧ ∃ u, P (ST F (s.2.1 4 x.toInt.toNat) (s.2.1 5 x.toInt.toNat) (s.2.1 7 x.toInt.toNat)).2.2.2 u ∧ u.1 = s.1 ∧ u.2.2.1 = s.2.2.1 ∧ (∀ j, j < 4 ∨ j = 6 → u.2.1 j = s.2.1 j) ∧ (∀ j i, ¬ i = x.toInt.toNat → u.2.1 j i = s.2.1 j i) ∧ u.2.1 4 x.toInt.toNat = (ST F (s.2.1 4 x.toInt.toNat) (s.2.1 5 x.toInt.toNat) (s.2.1 7 x.toInt.toNat)).1 ∧ u.2.1 5 x.toInt.toNat = (ST F (s.2.1 4 x.toInt.toNat) (s.2.1 5 x.toInt.toNat) (s.2.1 7 x.toInt.toNat)).2.1 ∧ u.2.1 7 x.toInt.toNat = (ST F (s.2.1 4 x.toInt.toNat) (s.2.1 5 x.toInt.toNat) (s.2.1 7 x.toInt.toNat)).2.2.1 ∧ u.2.1 8 x.toInt.toNat = s.2.1 8 x.toInt.toNat + 1 ∧ u.2.1 9 x.toInt.toNat = s.2.1 9 x.toInt.toNat + (ST F (s.2.1 4 x.toInt.toNat) (s.2.1 5 x.toInt.toNat) (s.2.1 7 x.toInt.toNat)).2.2.2 := by
  unfold wp_X0_stepOn at h
  obtain ⟨F, h, eF, _⟩ := e0_flF hf hD hB h0 h1 h
  refine ⟨F, eF, ?_⟩
  have h := (bh_e h.2).2
  rw [tn_i] at h
  have vu : ∀ {a : Nat → Nat → Int32} {k j i : Nat} {y : Int32}, ¬ i = x.toInt.toNat → (∀ j, a j i = s.2.1 j i) → va_up a k (upd (s.2.1 k) x.toInt.toNat y) j i = s.2.1 j i := by
    intro a k j i y hi ha
    by_cases e : j = k
    · subst e
      rw [va_up_self]
      exact up_n hi
    · rw [va_n e]
      exact ha j
  by_cases c : s.2.1 7 x.toInt.toNat ≤ 0
  · have h := (bh_e (h.1 c).2).2.2
    have ue : upd (s.2.1 4) x.toInt.toNat (bh (s.2.1 4 x.toInt.toNat) F) x.toInt.toNat = bh (s.2.1 4 x.toInt.toNat) F := up_e
    rw [ue] at h
    unfold ST
    rw [if_pos c]
    by_cases c2 : bh (s.2.1 4 x.toInt.toNat) F = 0
    · rw [if_pos c2]
      refine ⟨_, (h.2 c2).2.2.2.2.2, rfl, rfl, fun j hj => ?_, fun j i hi => ?_, ?_, up_e, rfl, up_e, up_e⟩
      · show va_up _ _ _ j = _
        rw [va_n (by omega), va_n (by omega), va_n (by omega), va_n (by omega)]
      · exact vu hi (fun j => vu hi (fun j => vu hi (fun j => vu hi (fun j => rfl))))
      · exact ue.trans c2
    · rw [if_neg c2]
      refine ⟨_, (h.1 c2).2.2.2.2.2, rfl, rfl, fun j hj => ?_, fun j i hi => ?_, up_e, up_e, rfl, up_e, up_e⟩
      · show va_up _ _ _ j = _
        rw [va_n (by omega), va_n (by omega), va_n (by omega), va_n (by omega)]
      · exact vu hi (fun j => vu hi (fun j => vu hi (fun j => vu hi (fun j => rfl))))
  · have h := (h.2 c).2.2.2.2.2.2.2
    unfold ST
    rw [if_neg c]
    refine ⟨_, h, rfl, rfl, fun j hj => ?_, fun j i hi => ?_, rfl, up_e, up_e, up_e, up_e⟩
    · show va_up _ _ _ j = _
      rw [va_n (by omega), va_n (by omega), va_n (by omega), va_n (by omega)]
    · exact vu hi (fun j => vu hi (fun j => vu hi (fun j => vu hi (fun j => rfl))))
