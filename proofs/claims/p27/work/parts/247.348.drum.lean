/-! drum: counts of signs. -/
def cg (g : Nat → Int32) (s : Int32) : Nat → Nat → Nat
  | _, 0 => 0
  | a, n + 1 => (if g a = s then 1 else 0) + cg g s (a + 1) n
def sm (p : Nat → Nat) : Nat → Nat → Nat
  | _, 0 => 0
  | a, n + 1 => p a + sm p (a + 1) n
def mx (p : Nat → Nat) : Nat → Nat → Nat
  | _, 0 => 0
  | a, n + 1 => max (p a) (mx p (a + 1) n)
/-- the sign of a flap of a drum -/
def gs (f : Nat → Int64) (d k : Nat) : Int32 := Int64.toInt32 (f (8 + 42 * d + 2 + k))
def ul (g : Nat → Int32) (N k : Nat) : Nat := if cg g (g k) (k + 1) (N - (k + 1)) = 0 then 1 else 0
/-! the reference -/
def u7 (g : Nat → Int32) (N i : Nat) : Nat := if cg g (nI i) 0 N = 0 then 0 else 1
def m7 (g : Nat → Int32) (N i : Nat) : Nat := cg g (nI i) 0 N

/-! total. -/
theorem e0_sum8_L {P : Int32 → Prop} {s : Bd} {f : Nat → Int64} {R W D : Int} (hf : rw_ok R W D f) (hB : RB s f) : ∀ (n : Nat) (z2 z3 : Int32), 0 ≤ z3.toInt → z3.toInt ≤ R * W → z2 = cs f 5 z3.toInt.toNat → wp_X0_sumOf_8_L4 s P (fun z2 _ => P z2) n z2 z3 → P (cs f 5 (R * W).toNat) := by
  have e1 : (1 : Int32).toInt = 1 := rfl
  have e40 : (40 : Int32).toInt = 40 := rfl
  have hR := hf.2.2.2.2.2.1
  have rc := RB_cells hf hB
  intro n
  induction n with
  | zero =>
    intro z2 z3 _ _ _ h
    exact (show False from h).elim
  | succ n ih =>
    intro z2 z3 a1 a2 a3 h
    unfold wp_X0_sumOf_8_L4 at h
    have h := cells6_e h
    by_cases c : s.1 0 * s.1 1 ≤ z3
    · have := q_le c
      have e : z3.toInt = R * W := by omega
      rw [← e, ← a3]
      exact h.1 c
    · have := q_nle c
      have h := ((h.2 c).2 (fun g => by have := q_le g; omega)).2
      have s3 := nw (tq_addr e1 z3) (by omega)
      have at_ := RB_x (c := z3.toInt.toNat) hf hB (by omega)
      rw [tn_i, at_.2.2.2.2.2.1] at h
      refine ih _ (z3 + 1) (by omega) (by omega) ?_ h
      rw [show (z3 + 1).toInt.toNat = z3.toInt.toNat + 1 by omega, a3] <;> first | rfl | decide
theorem e0_sum9_L {P : Int32 → Prop} {s : Bd} {f : Nat → Int64} {R W D : Int} (hf : rw_ok R W D f) (hB : RB s f) : ∀ (n : Nat) (z2 z3 : Int32), 0 ≤ z3.toInt → z3.toInt ≤ R * W → z2 = cs f 6 z3.toInt.toNat → wp_X0_sumOf_9_L4 s P (fun z2 _ => P z2) n z2 z3 → P (cs f 6 (R * W).toNat) := by
  have e1 : (1 : Int32).toInt = 1 := rfl
  have e40 : (40 : Int32).toInt = 40 := rfl
  have hR := hf.2.2.2.2.2.1
  have rc := RB_cells hf hB
  intro n
  induction n with
  | zero =>
    intro z2 z3 _ _ _ h
    exact (show False from h).elim
  | succ n ih =>
    intro z2 z3 a1 a2 a3 h
    unfold wp_X0_sumOf_9_L4 at h
    have h := cells6_e h
    by_cases c : s.1 0 * s.1 1 ≤ z3
    · have := q_le c
      have e : z3.toInt = R * W := by omega
      rw [← e, ← a3]
      exact h.1 c
    · have := q_nle c
      have h := ((h.2 c).2 (fun g => by have := q_le g; omega)).2
      have s3 := nw (tq_addr e1 z3) (by omega)
      have at_ := RB_x (c := z3.toInt.toNat) hf hB (by omega)
      rw [tn_i, at_.2.2.2.2.2.2.1] at h
      refine ih _ (z3 + 1) (by omega) (by omega) ?_ h
      rw [show (z3 + 1).toInt.toNat = z3.toInt.toNat + 1 by omega, a3] <;> first | rfl | decide
theorem sq_total {P6 P7 : Int32 → Prop} {s2 : Bd} {m : Md} {x1 : Int32} {B N R W D : Int} (hC : RC B s2 (m.2.2.1 0)) (hM : mb N R W D m) (hs : R ≤ 0 ∨ 0 < D) (h6 : wp_X6_total P6 s2 x1) (h7 : wp_X7_total P7 m x1) : ∃ r, P6 r ∧ P7 r := by
  have e0 : (0 : Int32).toInt = 0 := rfl
  have e1 : (1 : Int32).toInt = 1 := rfl
  have e2 : (2 : Int32).toInt = 2 := rfl
  have e3 : (3 : Int32).toInt = 3 := rfl
  have e4 : (4 : Int32).toInt = 4 := rfl
  have hB := hC.1
  obtain ⟨⟨t4, t5⟩, ⟨q5, q6⟩, _, _⟩ := hC.2
  have hf := hM.2.2.2.2.1
  have hR := hf.2.2.2.2.2.1
  have rc := RB_cells hf hB
  rw [hf.1, hf.2.1] at q5 q6
  unfold wp_X6_total at h6
  unfold wp_X7_total at h7
  rcases e0_isThere h6 with ⟨h6, g1⟩ | ⟨h6, g⟩
  · rcases e7_isBoard hf h7 with ⟨h7, _⟩ | ⟨_, g⟩
    · have h6 := h6.1 (by decide)
      rcases e7_inC (i := 0) (j := 3) rfl rfl (h7.2 (by decide)) with ⟨h7, j1, j2⟩ | ⟨h7, j⟩
      · have h7 := (h7.2 (by decide)).2
        by_cases c0 : x1 = 0
        · rw [c0] at h7
          have h7 : P7 (Int64.toInt32 (m.2.2.1 0 4)) := h7
          rw [← t4] at h7
          exact ⟨_, h6.1 c0, h7⟩
        have h6 := h6.2 c0
        by_cases c1 : x1 = 1
        · rw [c1] at h7
          have h7 : P7 (Int64.toInt32 (m.2.2.1 0 5)) := h7
          rw [← t5] at h7
          exact ⟨_, h6.1 c1, h7⟩
        have h6 := h6.2 c1
        by_cases c2 : x1 = 2
        · rw [c2] at h7
          have h7 : P7 (Int64.toInt32 (m.2.2.1 0 6)) := h7
          rw [← q5] at h7
          have h6 := h6.1 c2
          unfold wp_X0_sumOf_8 at h6
          obtain ⟨n, h6⟩ := h6
          exact ⟨_, e0_sum8_L hf hB n 0 0 (by decide) (by omega) rfl h6, h7⟩
        have h6 := h6.2 c2
        have c3 : x1 = 3 := by
          refine Int32.toInt_inj.mp ?_
          have n0 : ¬ x1.toInt = 0 := fun q => c0 (Int32.toInt_inj.mp q)
          have n1 : ¬ x1.toInt = 1 := fun q => c1 (Int32.toInt_inj.mp q)
          have n2 : ¬ x1.toInt = 2 := fun q => c2 (Int32.toInt_inj.mp q)
          omega
        rw [c3] at h7
        have h7 : P7 (Int64.toInt32 (m.2.2.1 0 7)) := h7
        rw [← q6] at h7
        have h6 := h6.1 c3
        unfold wp_X0_sumOf_9 at h6
        obtain ⟨n, h6⟩ := h6
        exact ⟨_, e0_sum9_L hf hB n 0 0 (by decide) (by omega) rfl h6, h7⟩
      · have n0 : ¬ x1 = 0 := fun q => by rw [q, e0] at j; omega
        have n1 : ¬ x1 = 1 := fun q => by rw [q, e1] at j; omega
        have n2 : ¬ x1 = 2 := fun q => by rw [q, e2] at j; omega
        have n3 : ¬ x1 = 3 := fun q => by rw [q, e3] at j; omega
        exact ⟨_, (((h6.2 n0).2 n1).2 n2).2 n3, h7.1 rfl⟩
    · omega
  · rcases e7_isBoard hf h7 with ⟨_, g⟩ | ⟨h7, _⟩
    · omega
    · exact ⟨_, h6.2 rfl, h7.1 rfl⟩

/-! often, usual, and what else counts the log's entries. -/
/-- an entry of the log -/
def lg (f : Nat → Int64) (d a b : Nat) : Int32 := Int64.toInt32 (f (lx d a b))
/-- entries from a flap (to: 0) or to it -/
def eo (f : Nat → Int64) (d k : Nat) (to : Int32) (o : Nat) : Int32 := if to = 0 then lg f d k o else lg f d o k

/-! log: how many entries, how many unlike ones. -/
/-! the journey, in numbers without bounds -/
def si (h : Nat → Int) : Nat → Nat → Int
  | _, 0 => 0
  | a, n + 1 => h a + si h (a + 1) n
def ei (f : Nat → Int64) (d a b : Nat) : Int := (f (lx d a b)).toInt
