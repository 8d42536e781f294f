/-! What a method leaves as it was. -/
def xf {O : Type} (F : (O → Prop) → Prop) (I : O → Prop) : Prop := ∀ P, F P → ∃ o, P o ∧ I o
section XF
variable {O : Type} {F G : (O → Prop) → Prop} {I : O → Prop}
theorem xf_dt (h : dt F F) : xf F (fun _ => True) := fun P g => by
  obtain ⟨o, a, _⟩ := h P g
  exact ⟨o, a, trivial⟩
theorem xf_r {o : O} (h : I o) : xf (fun P : O → Prop => P o) I := fun P g => ⟨o, g, h⟩
theorem xf_F : xf (fun _ : O → Prop => False) I := fun P h => h.elim
theorem xf_c {c : Prop} (h : xf F I) : xf (fun P : O → Prop => c ∧ F P) I := fun P g => h P g.2
theorem xf_p {c : Prop} (h1 : xf F I) (h2 : xf G I) : xf (fun P : O → Prop => (c → F P) ∧ (¬ c → G P)) I := fun P g => by
  by_cases hc : c
  · exact h1 P (g.1 hc)
  · exact h2 P (g.2 hc)
theorem xf_n {c : Prop} (h1 : xf F I) (h2 : xf G I) : xf (fun P : O → Prop => (¬ c → F P) ∧ (c → G P)) I := fun P g => by
  by_cases hc : c
  · exact h2 P (g.2 hc)
  · exact h1 P (g.1 hc)
theorem xf_x {F : Nat → (O → Prop) → Prop} (h : ∀ n, xf (F n) I) : xf (fun P : O → Prop => ∃ n, F n P) I := fun P g => by
  obtain ⟨n, g⟩ := g
  exact h n P g
theorem xf_b1 {A0 : Type} {F : (A0 → Prop) → Prop} {G : A0 → (O → Prop) → Prop} {J : A0 → Prop} (h : xf (fun P : A0 → Prop => F (fun a0 => P a0)) J) (k : ∀ a0, J a0 → xf (G a0) I) : xf (fun P : O → Prop => F (fun a0 => G a0 P)) I := fun P g => by
  obtain ⟨x, p, i⟩ := h (fun x => G x P) g
  exact k x i P p
theorem xf_b2 {A0 A1 : Type} {F : (A0 → A1 → Prop) → Prop} {G : A0 → A1 → (O → Prop) → Prop} {J : A0 × A1 → Prop} (h : xf (fun P : A0 × A1 → Prop => F (fun a0 a1 => P (a0, a1))) J) (k : ∀ a0 a1, J (a0, a1) → xf (G a0 a1) I) : xf (fun P : O → Prop => F (fun a0 a1 => G a0 a1 P)) I := fun P g => by
  obtain ⟨x, p, i⟩ := h (fun x => G x.1 x.2 P) g
  exact k x.1 x.2 i P p
theorem xf_b3 {A0 A1 A2 : Type} {F : (A0 → A1 → A2 → Prop) → Prop} {G : A0 → A1 → A2 → (O → Prop) → Prop} {J : A0 × A1 × A2 → Prop} (h : xf (fun P : A0 × A1 × A2 → Prop => F (fun a0 a1 a2 => P (a0, a1, a2))) J) (k : ∀ a0 a1 a2, J (a0, a1, a2) → xf (G a0 a1 a2) I) : xf (fun P : O → Prop => F (fun a0 a1 a2 => G a0 a1 a2 P)) I := fun P g => by
  obtain ⟨x, p, i⟩ := h (fun x => G x.1 x.2.1 x.2.2 P) g
  exact k x.1 x.2.1 x.2.2 i P p
theorem xf_b4 {A0 A1 A2 A3 : Type} {F : (A0 → A1 → A2 → A3 → Prop) → Prop} {G : A0 → A1 → A2 → A3 → (O → Prop) → Prop} {J : A0 × A1 × A2 × A3 → Prop} (h : xf (fun P : A0 × A1 × A2 × A3 → Prop => F (fun a0 a1 a2 a3 => P (a0, a1, a2, a3))) J) (k : ∀ a0 a1 a2 a3, J (a0, a1, a2, a3) → xf (G a0 a1 a2 a3) I) : xf (fun P : O → Prop => F (fun a0 a1 a2 a3 => G a0 a1 a2 a3 P)) I := fun P g => by
  obtain ⟨x, p, i⟩ := h (fun x => G x.1 x.2.1 x.2.2.1 x.2.2.2 P) g
  exact k x.1 x.2.1 x.2.2.1 x.2.2.2 i P p
theorem xf_b5 {A0 A1 A2 A3 A4 : Type} {F : (A0 → A1 → A2 → A3 → A4 → Prop) → Prop} {G : A0 → A1 → A2 → A3 → A4 → (O → Prop) → Prop} {J : A0 × A1 × A2 × A3 × A4 → Prop} (h : xf (fun P : A0 × A1 × A2 × A3 × A4 → Prop => F (fun a0 a1 a2 a3 a4 => P (a0, a1, a2, a3, a4))) J) (k : ∀ a0 a1 a2 a3 a4, J (a0, a1, a2, a3, a4) → xf (G a0 a1 a2 a3 a4) I) : xf (fun P : O → Prop => F (fun a0 a1 a2 a3 a4 => G a0 a1 a2 a3 a4 P)) I := fun P g => by
  obtain ⟨x, p, i⟩ := h (fun x => G x.1 x.2.1 x.2.2.1 x.2.2.2.1 x.2.2.2.2 P) g
  exact k x.1 x.2.1 x.2.2.1 x.2.2.2.1 x.2.2.2.2 i P p
end XF
