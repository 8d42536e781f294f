/-! What a wp says, it says of one result: determinism (F and F': the same program, perhaps with other fuel). -/
def dt {O : Type} (F F' : (O → Prop) → Prop) : Prop := ∀ P, F P → ∃ o, P o ∧ (∀ Q : O → Prop, Q o → F Q) ∧ (∀ Q : O → Prop, F' Q → Q o)
section DT
variable {O : Type} {F F' G G' : (O → Prop) → Prop}
theorem dt_r (o : O) : dt (fun P : O → Prop => P o) (fun P : O → Prop => P o) := fun P h => ⟨o, h, fun Q hQ => hQ, fun Q hQ => hQ⟩
theorem dt_F : dt (fun _ : O → Prop => False) F' := fun P h => h.elim
theorem dt_0 (h : dt F F') : dt F (fun _ : O → Prop => False) := fun P g => by
  obtain ⟨o, a, b, c⟩ := h P g
  exact ⟨o, a, b, fun Q hQ => hQ.elim⟩
theorem dt_c {c : Prop} (h : dt F F') : dt (fun P : O → Prop => c ∧ F P) (fun P : O → Prop => c ∧ F' P) := fun P g => by
  obtain ⟨o, a, b, d⟩ := h P g.2
  exact ⟨o, a, fun Q hQ => ⟨g.1, b Q hQ⟩, fun Q hQ => d Q hQ.2⟩
theorem dt_p {c : Prop} (h1 : dt F F') (h2 : dt G G') : dt (fun P : O → Prop => (c → F P) ∧ (¬ c → G P)) (fun P : O → Prop => (c → F' P) ∧ (¬ c → G' P)) := fun P g => by
  by_cases hc : c
  · obtain ⟨o, a, b, d⟩ := h1 P (g.1 hc)
    exact ⟨o, a, fun Q hQ => ⟨fun _ => b Q hQ, fun n => absurd hc n⟩, fun Q hQ => d Q (hQ.1 hc)⟩
  · obtain ⟨o, a, b, d⟩ := h2 P (g.2 hc)
    exact ⟨o, a, fun Q hQ => ⟨fun n => absurd n hc, fun _ => b Q hQ⟩, fun Q hQ => d Q (hQ.2 hc)⟩
theorem dt_n {c : Prop} (h1 : dt F F') (h2 : dt G G') : dt (fun P : O → Prop => (¬ c → F P) ∧ (c → G P)) (fun P : O → Prop => (¬ c → F' P) ∧ (c → G' P)) := fun P g => by
  by_cases hc : c
  · obtain ⟨o, a, b, d⟩ := h2 P (g.2 hc)
    exact ⟨o, a, fun Q hQ => ⟨fun n => absurd hc n, fun _ => b Q hQ⟩, fun Q hQ => d Q (hQ.2 hc)⟩
  · obtain ⟨o, a, b, d⟩ := h1 P (g.1 hc)
    exact ⟨o, a, fun Q hQ => ⟨fun _ => b Q hQ, fun n => absurd n hc⟩, fun Q hQ => d Q (hQ.1 hc)⟩
theorem dt_x {F F' : Nat → (O → Prop) → Prop} (h : ∀ n m, dt (F n) (F' m)) : dt (fun P : O → Prop => ∃ n, F n P) (fun P : O → Prop => ∃ n, F' n P) := fun P g => by
  obtain ⟨n, g⟩ := g
  obtain ⟨o, a, b, d⟩ := h n 0 P g
  refine ⟨o, a, fun Q hQ => ⟨n, b Q hQ⟩, fun Q hQ => ?_⟩
  obtain ⟨m, hQ⟩ := hQ
  obtain ⟨o2, a2, b2, d2⟩ := h n m (fun x => x = o) (b _ rfl)
  exact a2 ▸ d2 Q hQ
theorem dt_b0 {F : Prop → Prop} {G G' : (O → Prop) → Prop} (h : dt (fun P : Unit → Prop => F (P ())) (fun P : Unit → Prop => F (P ()))) (k : dt G G') : dt (fun P : O → Prop => F (G P)) (fun P : O → Prop => F (G' P)) := fun P g => by
  obtain ⟨x, p, q, w⟩ := h (fun _ => G P) g
  obtain ⟨o, a, b, d⟩ := k P p
  exact ⟨o, a, fun Q hQ => q (fun _ => G Q) (b Q hQ), fun Q hQ => d Q (w (fun _ => G' Q) hQ)⟩
theorem dt_b1 {A0 : Type} {F : (A0 → Prop) → Prop} {G G' : A0 → (O → Prop) → Prop} (h : dt (fun P : A0 → Prop => F (fun a0 => P a0)) (fun P : A0 → Prop => F (fun a0 => P a0))) (k : ∀ a0, dt (G a0) (G' a0)) : dt (fun P : O → Prop => F (fun a0 => G a0 P)) (fun P : O → Prop => F (fun a0 => G' a0 P)) := fun P g => by
  obtain ⟨x, p, q, w⟩ := h (fun x => G x P) g
  obtain ⟨o, a, b, d⟩ := k x P p
  exact ⟨o, a, fun Q hQ => q (fun x => G x Q) (b Q hQ), fun Q hQ => d Q (w (fun x => G' x Q) hQ)⟩
theorem dt_b2 {A0 A1 : Type} {F : (A0 → A1 → Prop) → Prop} {G G' : A0 → A1 → (O → Prop) → Prop} (h : dt (fun P : A0 × A1 → Prop => F (fun a0 a1 => P (a0, a1))) (fun P : A0 × A1 → Prop => F (fun a0 a1 => P (a0, a1)))) (k : ∀ a0 a1, dt (G a0 a1) (G' a0 a1)) : dt (fun P : O → Prop => F (fun a0 a1 => G a0 a1 P)) (fun P : O → Prop => F (fun a0 a1 => G' a0 a1 P)) := fun P g => by
  obtain ⟨x, p, q, w⟩ := h (fun x => G x.1 x.2 P) g
  obtain ⟨o, a, b, d⟩ := k x.1 x.2 P p
  exact ⟨o, a, fun Q hQ => q (fun x => G x.1 x.2 Q) (b Q hQ), fun Q hQ => d Q (w (fun x => G' x.1 x.2 Q) hQ)⟩
theorem dt_b3 {A0 A1 A2 : Type} {F : (A0 → A1 → A2 → Prop) → Prop} {G G' : A0 → A1 → A2 → (O → Prop) → Prop} (h : dt (fun P : A0 × A1 × A2 → Prop => F (fun a0 a1 a2 => P (a0, a1, a2))) (fun P : A0 × A1 × A2 → Prop => F (fun a0 a1 a2 => P (a0, a1, a2)))) (k : ∀ a0 a1 a2, dt (G a0 a1 a2) (G' a0 a1 a2)) : dt (fun P : O → Prop => F (fun a0 a1 a2 => G a0 a1 a2 P)) (fun P : O → Prop => F (fun a0 a1 a2 => G' a0 a1 a2 P)) := fun P g => by
  obtain ⟨x, p, q, w⟩ := h (fun x => G x.1 x.2.1 x.2.2 P) g
  obtain ⟨o, a, b, d⟩ := k x.1 x.2.1 x.2.2 P p
  exact ⟨o, a, fun Q hQ => q (fun x => G x.1 x.2.1 x.2.2 Q) (b Q hQ), fun Q hQ => d Q (w (fun x => G' x.1 x.2.1 x.2.2 Q) hQ)⟩
theorem dt_b4 {A0 A1 A2 A3 : Type} {F : (A0 → A1 → A2 → A3 → Prop) → Prop} {G G' : A0 → A1 → A2 → A3 → (O → Prop) → Prop} (h : dt (fun P : A0 × A1 × A2 × A3 → Prop => F (fun a0 a1 a2 a3 => P (a0, a1, a2, a3))) (fun P : A0 × A1 × A2 × A3 → Prop => F (fun a0 a1 a2 a3 => P (a0, a1, a2, a3)))) (k : ∀ a0 a1 a2 a3, dt (G a0 a1 a2 a3) (G' a0 a1 a2 a3)) : dt (fun P : O → Prop => F (fun a0 a1 a2 a3 => G a0 a1 a2 a3 P)) (fun P : O → Prop => F (fun a0 a1 a2 a3 => G' a0 a1 a2 a3 P)) := fun P g => by
  obtain ⟨x, p, q, w⟩ := h (fun x => G x.1 x.2.1 x.2.2.1 x.2.2.2 P) g
  obtain ⟨o, a, b, d⟩ := k x.1 x.2.1 x.2.2.1 x.2.2.2 P p
  exact ⟨o, a, fun Q hQ => q (fun x => G x.1 x.2.1 x.2.2.1 x.2.2.2 Q) (b Q hQ), fun Q hQ => d Q (w (fun x => G' x.1 x.2.1 x.2.2.1 x.2.2.2 Q) hQ)⟩
theorem dt_b5 {A0 A1 A2 A3 A4 : Type} {F : (A0 → A1 → A2 → A3 → A4 → Prop) → Prop} {G G' : A0 → A1 → A2 → A3 → A4 → (O → Prop) → Prop} (h : dt (fun P : A0 × A1 × A2 × A3 × A4 → Prop => F (fun a0 a1 a2 a3 a4 => P (a0, a1, a2, a3, a4))) (fun P : A0 × A1 × A2 × A3 × A4 → Prop => F (fun a0 a1 a2 a3 a4 => P (a0, a1, a2, a3, a4)))) (k : ∀ a0 a1 a2 a3 a4, dt (G a0 a1 a2 a3 a4) (G' a0 a1 a2 a3 a4)) : dt (fun P : O → Prop => F (fun a0 a1 a2 a3 a4 => G a0 a1 a2 a3 a4 P)) (fun P : O → Prop => F (fun a0 a1 a2 a3 a4 => G' a0 a1 a2 a3 a4 P)) := fun P g => by
  obtain ⟨x, p, q, w⟩ := h (fun x => G x.1 x.2.1 x.2.2.1 x.2.2.2.1 x.2.2.2.2 P) g
  obtain ⟨o, a, b, d⟩ := k x.1 x.2.1 x.2.2.1 x.2.2.2.1 x.2.2.2.2 P p
  exact ⟨o, a, fun Q hQ => q (fun x => G x.1 x.2.1 x.2.2.1 x.2.2.2.1 x.2.2.2.2 Q) (b Q hQ), fun Q hQ => d Q (w (fun x => G' x.1 x.2.1 x.2.2.1 x.2.2.2.1 x.2.2.2.2 Q) hQ)⟩
theorem dt_b6 {A0 A1 A2 A3 A4 A5 : Type} {F : (A0 → A1 → A2 → A3 → A4 → A5 → Prop) → Prop} {G G' : A0 → A1 → A2 → A3 → A4 → A5 → (O → Prop) → Prop} (h : dt (fun P : A0 × A1 × A2 × A3 × A4 × A5 → Prop => F (fun a0 a1 a2 a3 a4 a5 => P (a0, a1, a2, a3, a4, a5))) (fun P : A0 × A1 × A2 × A3 × A4 × A5 → Prop => F (fun a0 a1 a2 a3 a4 a5 => P (a0, a1, a2, a3, a4, a5)))) (k : ∀ a0 a1 a2 a3 a4 a5, dt (G a0 a1 a2 a3 a4 a5) (G' a0 a1 a2 a3 a4 a5)) : dt (fun P : O → Prop => F (fun a0 a1 a2 a3 a4 a5 => G a0 a1 a2 a3 a4 a5 P)) (fun P : O → Prop => F (fun a0 a1 a2 a3 a4 a5 => G' a0 a1 a2 a3 a4 a5 P)) := fun P g => by
  obtain ⟨x, p, q, w⟩ := h (fun x => G x.1 x.2.1 x.2.2.1 x.2.2.2.1 x.2.2.2.2.1 x.2.2.2.2.2 P) g
  obtain ⟨o, a, b, d⟩ := k x.1 x.2.1 x.2.2.1 x.2.2.2.1 x.2.2.2.2.1 x.2.2.2.2.2 P p
  exact ⟨o, a, fun Q hQ => q (fun x => G x.1 x.2.1 x.2.2.1 x.2.2.2.1 x.2.2.2.2.1 x.2.2.2.2.2 Q) (b Q hQ), fun Q hQ => d Q (w (fun x => G' x.1 x.2.1 x.2.2.1 x.2.2.2.1 x.2.2.2.2.1 x.2.2.2.2.2 Q) hQ)⟩
theorem dt_b7 {A0 A1 A2 A3 A4 A5 A6 : Type} {F : (A0 → A1 → A2 → A3 → A4 → A5 → A6 → Prop) → Prop} {G G' : A0 → A1 → A2 → A3 → A4 → A5 → A6 → (O → Prop) → Prop} (h : dt (fun P : A0 × A1 × A2 × A3 × A4 × A5 × A6 → Prop => F (fun a0 a1 a2 a3 a4 a5 a6 => P (a0, a1, a2, a3, a4, a5, a6))) (fun P : A0 × A1 × A2 × A3 × A4 × A5 × A6 → Prop => F (fun a0 a1 a2 a3 a4 a5 a6 => P (a0, a1, a2, a3, a4, a5, a6)))) (k : ∀ a0 a1 a2 a3 a4 a5 a6, dt (G a0 a1 a2 a3 a4 a5 a6) (G' a0 a1 a2 a3 a4 a5 a6)) : dt (fun P : O → Prop => F (fun a0 a1 a2 a3 a4 a5 a6 => G a0 a1 a2 a3 a4 a5 a6 P)) (fun P : O → Prop => F (fun a0 a1 a2 a3 a4 a5 a6 => G' a0 a1 a2 a3 a4 a5 a6 P)) := fun P g => by
  obtain ⟨x, p, q, w⟩ := h (fun x => G x.1 x.2.1 x.2.2.1 x.2.2.2.1 x.2.2.2.2.1 x.2.2.2.2.2.1 x.2.2.2.2.2.2 P) g
  obtain ⟨o, a, b, d⟩ := k x.1 x.2.1 x.2.2.1 x.2.2.2.1 x.2.2.2.2.1 x.2.2.2.2.2.1 x.2.2.2.2.2.2 P p
  exact ⟨o, a, fun Q hQ => q (fun x => G x.1 x.2.1 x.2.2.1 x.2.2.2.1 x.2.2.2.2.1 x.2.2.2.2.2.1 x.2.2.2.2.2.2 Q) (b Q hQ), fun Q hQ => d Q (w (fun x => G' x.1 x.2.1 x.2.2.1 x.2.2.2.1 x.2.2.2.2.1 x.2.2.2.2.2.1 x.2.2.2.2.2.2 Q) hQ)⟩
end DT
