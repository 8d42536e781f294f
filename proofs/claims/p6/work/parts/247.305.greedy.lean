/-! Who turns: both choose one by one, those with most left first, of like ones the lesser number. -/
/-- before: more left, or as much and a lesser number -/
def bf (L : Nat → Int) (c d : Nat) : Prop := L d < L c ∨ (L c = L d ∧ c ≤ d)
def NX (n : Nat) (L : Nat → Int) (A : Nat → Bool) (c : Nat) : Prop := c < n ∧ 0 < L c ∧ A c = false ∧ ∀ d, d < n → 0 < L d → A d = false → bf L c d
theorem NX_u {n : Nat} {L : Nat → Int} {A : Nat → Bool} {c d : Nat} (h : NX n L A c) (k : NX n L A d) : c = d := by
  have a := h.2.2.2 d k.1 k.2.1 k.2.2.1
  have b := k.2.2.2 c h.1 h.2.1 h.2.2.1
  unfold bf at a b
  omega
def ad (A : Nat → Bool) (c : Nat) : Nat → Bool := fun i => A i || decide (i = c)
def PR (n : Nat) (L : Nat → Int) (C : Nat → Int) (lim : Int) : Nat → (Nat → Bool) → (Nat → Bool) → Nat → Int → Prop
  | 0, A, T, m, u => A = (fun _ => false) ∧ T = (fun _ => false) ∧ m = 0 ∧ u = 0
  | k + 1, A', T', m', u' => ∃ A T m u c, PR n L C lim k A T m u ∧ NX n L A c ∧ A' = ad A c ∧ ((u + C c ≤ lim ∧ T' = ad T c ∧ m' = m + 1 ∧ u' = u + C c) ∨ (lim < u + C c ∧ T' = T ∧ m' = m ∧ u' = u))
theorem PR_nil {n : Nat} {L C : Nat → Int} {lim : Int} : PR n L C lim 0 (fun _ => false) (fun _ => false) 0 0 := ⟨rfl, rfl, rfl, rfl⟩
theorem PR_take {n : Nat} {L C : Nat → Int} {lim : Int} {k : Nat} {A T : Nat → Bool} {m : Nat} {u : Int} {c : Nat} (h : PR n L C lim k A T m u) (b : NX n L A c) (g : u + C c ≤ lim) : PR n L C lim (k + 1) (ad A c) (ad T c) (m + 1) (u + C c) := ⟨A, T, m, u, c, h, b, rfl, Or.inl ⟨g, rfl, rfl, rfl⟩⟩
theorem PR_skip {n : Nat} {L C : Nat → Int} {lim : Int} {k : Nat} {A T : Nat → Bool} {m : Nat} {u : Int} {c : Nat} (h : PR n L C lim k A T m u) (b : NX n L A c) (g : lim < u + C c) : PR n L C lim (k + 1) (ad A c) T m u := ⟨A, T, m, u, c, h, b, rfl, Or.inr ⟨g, rfl, rfl, rfl⟩⟩
theorem PR_u {n : Nat} {L C : Nat → Int} {lim : Int} : ∀ (k : Nat) {A A' T T' : Nat → Bool} {m m' : Nat} {u u' : Int}, PR n L C lim k A T m u → PR n L C lim k A' T' m' u' → A = A' ∧ T = T' ∧ m = m' ∧ u = u' := by
  intro k
  induction k with
  | zero =>
    intro A A' T T' m m' u u' h h'
    exact ⟨h.1.trans h'.1.symm, h.2.1.trans h'.2.1.symm, h.2.2.1.trans h'.2.2.1.symm, h.2.2.2.trans h'.2.2.2.symm⟩
  | succ k ih =>
    intro A A' T T' m m' u u' h h'
    obtain ⟨A1, T1, m1, u1, c1, a1, b1, e1, g1⟩ := h
    obtain ⟨A2, T2, m2, u2, c2, a2, b2, e2, g2⟩ := h'
    obtain ⟨rfl, rfl, rfl, rfl⟩ := ih a1 a2
    have ec := NX_u b1 b2
    subst ec
    rcases g1 with ⟨p1, p2, p3, p4⟩ | ⟨p1, p2, p3, p4⟩
    · rcases g2 with ⟨q1, q2, q3, q4⟩ | ⟨q1, q2, q3, q4⟩
      · exact ⟨e1.trans e2.symm, p2.trans q2.symm, p3.trans q3.symm, p4.trans q4.symm⟩
      · omega
    · rcases g2 with ⟨q1, q2, q3, q4⟩ | ⟨q1, q2, q3, q4⟩
      · omega
      · exact ⟨e1.trans e2.symm, p2.trans q2.symm, p3.trans q3.symm, p4.trans q4.symm⟩
/-- nobody is left to be asked, or nothing more can turn -/
def CP (n : Nat) (L : Nat → Int) (lim : Int) (A : Nat → Bool) (u : Int) : Prop := (∀ c, c < n → 0 < L c → A c = true) ∨ lim ≤ u
theorem PR_x {n : Nat} {L C : Nat → Int} {lim : Int} (hC : ∀ c, c < n → 1 ≤ C c) {k : Nat} {A T : Nat → Bool} {m : Nat} {u : Int} (h : PR n L C lim k A T m u) (hc : CP n L lim A u) : ∀ (d : Nat) {A' T' : Nat → Bool} {m' : Nat} {u' : Int}, PR n L C lim (k + d) A' T' m' u' → T = T' ∧ m = m' ∧ u = u' ∧ CP n L lim A' u' := by
  intro d
  induction d with
  | zero =>
    intro A' T' m' u' h'
    obtain ⟨rfl, rfl, rfl, rfl⟩ := PR_u k h h'
    exact ⟨rfl, rfl, rfl, hc⟩
  | succ d ih =>
    intro A' T' m' u' h'
    have h' : PR n L C lim ((k + d) + 1) A' T' m' u' := h'
    obtain ⟨A1, T1, m1, u1, c, a, b, e, g0⟩ := h'
    obtain ⟨rfl, rfl, rfl, g⟩ := ih a
    rcases g0 with ⟨p1, p2, p3, p4⟩ | ⟨p1, p2, p3, p4⟩
    · exfalso
      rcases g with g | g
      · have := g _ b.1 b.2.1
        rw [b.2.2.1] at this
        cases this
      · have := hC _ b.1
        omega
    · refine ⟨p2.symm, p3.symm, p4.symm, ?_⟩
      rcases g with g | g
      · exfalso
        have := g _ b.1 b.2.1
        rw [b.2.2.1] at this
        cases this
      · exact Or.inr (by omega)
theorem PR_f {n : Nat} {L C : Nat → Int} {lim : Int} (hC : ∀ c, c < n → 1 ≤ C c) {k k' : Nat} {A A' T T' : Nat → Bool} {m m' : Nat} {u u' : Int} (h : PR n L C lim k A T m u) (hc : CP n L lim A u) (h' : PR n L C lim k' A' T' m' u') (hc' : CP n L lim A' u') : T = T' ∧ m = m' ∧ u = u' := by
  rcases Nat.le_total k k' with g | g
  · obtain ⟨d, rfl⟩ := Nat.exists_eq_add_of_le g
    have q := PR_x hC h hc d h'
    exact ⟨q.1, q.2.1, q.2.2.1⟩
  · obtain ⟨d, rfl⟩ := Nat.exists_eq_add_of_le g
    have q := PR_x hC h' hc' d h
    exact ⟨q.1.symm, q.2.1.symm, q.2.2.1.symm⟩
/-- bounds: as many as were asked, and the current is under the limit -/
theorem PR_b {n : Nat} {L C : Nat → Int} {lim : Int} (hl : 0 ≤ lim) : ∀ {k : Nat} {A T : Nat → Bool} {m : Nat} {u : Int}, PR n L C lim k A T m u → u ≤ lim ∧ (∀ i, T i = true → A i = true) ∧ (∀ i, A i = true → i < n ∧ 0 < L i) := by
  intro k
  induction k with
  | zero =>
    intro A T m u h
    obtain ⟨e1, e2, e3, e4⟩ := h
    refine ⟨by omega, fun i hi => ?_, fun i hi => ?_⟩
    · rw [e2] at hi
      cases hi
    · rw [e1] at hi
      cases hi
  | succ k ih =>
    intro A T m u h
    obtain ⟨A1, T1, m1, u1, c, a, b, e, g⟩ := h
    obtain ⟨i1, i2, i3⟩ := ih a
    have hA : ∀ i, A i = true → i < n ∧ 0 < L i := fun i hi => by
      rw [e] at hi
      unfold ad at hi
      rcases Bool.or_eq_true_iff.mp hi with g | g
      · exact i3 i g
      · have := of_decide_eq_true g
        subst this
        exact ⟨b.1, b.2.1⟩
    rcases g with ⟨p1, p2, p3, p4⟩ | ⟨p1, p2, p3, p4⟩
    · refine ⟨by omega, fun i hi => ?_, hA⟩
      rw [p2] at hi
      rw [e]
      unfold ad at hi ⊢
      rcases Bool.or_eq_true_iff.mp hi with g | g
      · rw [i2 i g]
        rfl
      · rw [g, Bool.or_true]
    · refine ⟨by omega, fun i hi => ?_, hA⟩
      rw [p2] at hi
      rw [e]
      unfold ad
      rw [i2 i hi]
      rfl
