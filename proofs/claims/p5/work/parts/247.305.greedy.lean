/-! Who turns: both choose one by one, those with most left first, of like ones the lesser number. -/
/-- before: more left, or as much and a lesser number -/
def bf (L : Nat → Int) (c d : Nat) : Prop := L d < L c ∨ (L c = L d ∧ c ≤ d)
def NX (n : Nat) (L : Nat → Int) (A : Nat → Bool) (c : Nat) : Prop := c < n ∧ 0 < L c ∧ A c = false ∧ ∀ d, d < n → 0 < L d → A d = false → bf L c d
theorem NX_u {n : Nat} {L : Nat → Int} {A : Nat → Bool} {c d : Nat} (h : NX n L A c) (k : NX n L A d) : c = d := by
  have a := h.2.2.2 d k.1 k.2.1 k.2.2.1
  have b := k.2.2.2 c h.1 h.2.1 h.2.2.1
  unfold bf at a b
  omega
def ad (A : Nat → Bool) (c : Nat) : Nat → Bool := fun i => A i || decide (i = c)
inductive PR (n : Nat) (L : Nat → Int) (C : Nat → Int) (lim : Int) : Nat → (Nat → Bool) → (Nat → Bool) → Nat → Int → Prop
  | nil : PR n L C lim 0 (fun _ => false) (fun _ => false) 0 0
  | take {k A T m u c} : PR n L C lim k A T m u → NX n L A c → u + C c ≤ lim → PR n L C lim (k + 1) (ad A c) (ad T c) (m + 1) (u + C c)
  | skip {k A T m u c} : PR n L C lim k A T m u → NX n L A c → lim < u + C c → PR n L C lim (k + 1) (ad A c) T m u
theorem PR_u {n : Nat} {L C : Nat → Int} {lim : Int} : ∀ (k : Nat) {A A' T T' : Nat → Bool} {m m' : Nat} {u u' : Int}, PR n L C lim k A T m u → PR n L C lim k A' T' m' u' → A = A' ∧ T = T' ∧ m = m' ∧ u = u' := by
  intro k
  induction k with
  | zero =>
    intro A A' T T' m m' u u' h h'
    cases h
    cases h'
    exact ⟨rfl, rfl, rfl, rfl⟩
  | succ k ih =>
    intro A A' T T' m m' u u' h h'
    cases h with
    | take a b c =>
      cases h' with
      | take a' b' c' =>
        obtain ⟨rfl, rfl, rfl, rfl⟩ := ih a a'
        have e := NX_u b b'
        subst e
        exact ⟨rfl, rfl, rfl, rfl⟩
      | skip a' b' c' =>
        obtain ⟨rfl, rfl, rfl, rfl⟩ := ih a a'
        have e := NX_u b b'
        subst e
        omega
    | skip a b c =>
      cases h' with
      | take a' b' c' =>
        obtain ⟨rfl, rfl, rfl, rfl⟩ := ih a a'
        have e := NX_u b b'
        subst e
        omega
      | skip a' b' c' =>
        obtain ⟨rfl, rfl, rfl, rfl⟩ := ih a a'
        have e := NX_u b b'
        subst e
        exact ⟨rfl, rfl, rfl, rfl⟩
/-- nobody is left to be asked, or nothing more can turn -/
def CP (n : Nat) (L : Nat → Int) (lim : Int) (A : Nat → Bool) (u : Int) : Prop := (∀ c, c < n → 0 < L c → A c = true) ∨ lim ≤ u
theorem PR_x {n : Nat} {L C : Nat → Int} {lim : Int} (hC : ∀ c, c < n → 1 ≤ C c) {k : Nat} {A T : Nat → Bool} {m : Nat} {u : Int} (h : PR n L C lim k A T m u) (hc : CP n L lim A u) : ∀ (d : Nat) {A' T' : Nat → Bool} {m' : Nat} {u' : Int}, PR n L C lim (k + d) A' T' m' u' → T = T' ∧ m = m' ∧ u = u' ∧ CP n L lim A' u' := by
  intro d
  induction d with
  | zero =>
    intro A' T' m' u' h'
    obtain ⟨rfl, rfl, rfl, rfl⟩ := PR_u k h h'
    exact ⟨rfl, rfl, rfl, hc⟩
  | succ d ih =>
    intro A' T' m' u' h'
    have h' : PR n L C lim ((k + d) + 1) A' T' m' u' := h'
    cases h' with
    | take a b c =>
      obtain ⟨rfl, rfl, rfl, g⟩ := ih a
      exfalso
      rcases g with g | g
      · have := g _ b.1 b.2.1
        rw [b.2.2.1] at this
        cases this
      · have := hC _ b.1
        omega
    | skip a b c =>
      obtain ⟨rfl, rfl, rfl, g⟩ := ih a
      refine ⟨rfl, rfl, rfl, ?_⟩
      rcases g with g | g
      · exfalso
        have := g _ b.1 b.2.1
        rw [b.2.2.1] at this
        cases this
      · exact Or.inr g
theorem PR_f {n : Nat} {L C : Nat → Int} {lim : Int} (hC : ∀ c, c < n → 1 ≤ C c) {k k' : Nat} {A A' T T' : Nat → Bool} {m m' : Nat} {u u' : Int} (h : PR n L C lim k A T m u) (hc : CP n L lim A u) (h' : PR n L C lim k' A' T' m' u') (hc' : CP n L lim A' u') : T = T' ∧ m = m' ∧ u = u' := by
  rcases Nat.le_total k k' with g | g
  · obtain ⟨d, rfl⟩ := Nat.exists_eq_add_of_le g
    have q := PR_x hC h hc d h'
    exact ⟨q.1, q.2.1, q.2.2.1⟩
  · obtain ⟨d, rfl⟩ := Nat.exists_eq_add_of_le g
    have q := PR_x hC h' hc' d h
    exact ⟨q.1.symm, q.2.1.symm, q.2.2.1.symm⟩
/-- bounds: as many as were asked, and the current is under the limit -/
theorem PR_b {n : Nat} {L C : Nat → Int} {lim : Int} (hl : 0 ≤ lim) : ∀ {k : Nat} {A T : Nat → Bool} {m : Nat} {u : Int}, PR n L C lim k A T m u → u ≤ lim ∧ (∀ i, T i = true → A i = true) ∧ (∀ i, A i = true → i < n ∧ 0 < L i) := by
  intro k A T m u h
  induction h with
  | nil => exact ⟨hl, fun i h => h, fun i h => by cases h⟩
  | take a b c ih =>
    obtain ⟨i1, i2, i3⟩ := ih
    refine ⟨c, fun i hi => ?_, fun i hi => ?_⟩
    · unfold ad at hi ⊢
      rcases Bool.or_eq_true_iff.mp hi with g | g
      · rw [i2 i g]
        rfl
      · rw [g, Bool.or_true]
    · unfold ad at hi
      rcases Bool.or_eq_true_iff.mp hi with g | g
      · exact i3 i g
      · have := of_decide_eq_true g
        subst this
        exact ⟨b.1, b.2.1⟩
  | skip a b c ih =>
    obtain ⟨i1, i2, i3⟩ := ih
    refine ⟨i1, fun i hi => ?_, fun i hi => ?_⟩
    · unfold ad
      rw [i2 i hi]
      rfl
    · unfold ad at hi
      rcases Bool.or_eq_true_iff.mp hi with g | g
      · exact i3 i g
      · have := of_decide_eq_true g
        subst this
        exact ⟨b.1, b.2.1⟩
