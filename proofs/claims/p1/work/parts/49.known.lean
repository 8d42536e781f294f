theorem lw_short : ∀ L : Nat, L < 6 → Int32.ofNat L - 6 < 0 := by decide +kernel
theorem lw_known {p : Program} {s : State} {m : MethodId} {meth : Method} {c : Code} {b L : Nat} {xs : Nat → Int32} (C0 : lw_At p s m meth c b L xs) : ∃ (D : va_G) (q : Nat → ClassId), kn D q s ∧ sv q (fun x : Nat => s.heap.size ≤ x) s s.heap := by
  sorry
