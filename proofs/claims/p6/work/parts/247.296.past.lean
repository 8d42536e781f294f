/-! undo, keep, back. -/
theorem db2 {A B : Type} {F : (A → B → Prop) → Prop} (h : dt (fun P : A × B → Prop => F (fun a b => P (a, b))) (fun P : A × B → Prop => F (fun a b => P (a, b)))) {P Q : A → B → Prop} (a : F P) (b : F Q) : ∃ x y, P x y ∧ Q x y := by
  obtain ⟨o, p, q⟩ := dt_both h (P := fun o => P o.1 o.2) (Q := fun o => Q o.1 o.2) a b
  exact ⟨o.1, o.2, p, q⟩
def UN (s : Md) (r : Int32) (u : Md) : Prop := ((s.1 0) = 0 ∧ r = -1 ∧ u = s) ∨ (¬ (s.1 0) = 0 ∧ r = s.1 0 - 1 ∧ u.1 = va_up s.1 0 (s.1 0 - 1) ∧ u.2.1 = s.2.1 ∧ u.2.2.2 = s.2.2.2 ∧ (∀ k, ¬ k = 0 → u.2.2.1 k = s.2.2.1 k) ∧ (∀ i : Nat, i < 6896 → u.2.2.1 0 i = pw s 0 i))
theorem wr_undo {s0 : Md} (h0 : 0 ≤ (s0.1 0).toInt ∧ (s0.1 0).toInt ≤ 10) : wp_X7_undo (UN s0) s0 := by
  unfold wp_X7_undo
  have e0 : (0 : Int32).toInt = 0 := rfl
  have e1 : (1 : Int32).toInt = 1 := rfl
  refine ⟨fun c => ?_, fun c => Or.inl ⟨c, rfl, rfl⟩⟩
  have c2 := q_neq c
  have s1 := nw (tq_subr e1 (s0.1 0)) (by omega)
  obtain ⟨nf, hf⟩ := fu_e 7000
  have v0 : (((va_up s0.1 0 ((s0.1 0) - 1)), s0.2.1, s0.2.2.1, s0.2.2.2) : Md).1 0 = s0.1 0 - 1 := rfl
  refine ⟨nf, wq_X7_undo_L21 (s := ((va_up s0.1 0 ((s0.1 0) - 1)), s0.2.1, s0.2.2.1, s0.2.2.2)) (by rw [v0]; omega) (fun t z b1 b2 b3 b4 b5 b6 => ?_) nf _ 0 rfl rfl rfl (fun _ _ => rfl) (fun i hi => ?_) (fun _ _ => rfl) (by omega) (by omega)⟩
  · rw [v0] at b5
    refine Or.inr ⟨c, ?_, b1, b2, b3, b4, fun i hi => ?_⟩
    · rw [b1]
      rfl
    · have q := b5 i hi
      rw [Nat.zero_add] at q
      rw [q]
      unfold pw
      have eN : 6896 * (s0.1 0 - 1).toInt.toNat + i = 6896 * ((s0.1 0).toInt.toNat - 1 - 0) + i := by
        rw [s1]
        omega
      rw [eN]
  · omega
theorem sm_undo {P6 : Int32 → Bd → Pa → Prop} {P7 : Int32 → Md → Prop} {s6 : Pa} {s2 : Bd} {m : Md} {N R W D : Int} (hp : pa s6) (hP : RP s6 m) (hB : RB s2 (m.2.2.1 0)) (hM : mb N R W D m) (h6 : wp_X6_undo P6 s2 s6) (h7 : wp_X7_undo P7 m) : ∃ r b p m', P6 r b p ∧ P7 r m' ∧ RB b (m'.2.2.1 0) ∧ RP p m' ∧ m'.2.2.2 = m.2.2.2 ∧ m'.2.2.1 2 = m.2.2.1 2 := by
  have e0 : (0 : Int32).toInt = 0 := rfl
  have e1 : (1 : Int32).toInt = 1 := rfl
  obtain ⟨⟨p1, p2, p3, p4⟩, _⟩ := hp
  obtain ⟨r, u, g7, k7⟩ := db2 (F := fun P => wp_X7_undo P m) (dt_X7_undo m) h7 (wr_undo (s0 := m) hM.2.1)
  unfold wp_X6_undo wp_X3_pop at h6
  rcases k7 with ⟨c, rfl, rfl⟩ | ⟨c, rfl, k1, k2, k3, k4, k5⟩
  · have h6 := (h6.2 (hP.1.trans c)).1 rfl
    exact ⟨_, _, _, _, h6, g7, hB, hP, rfl, rfl⟩
  · have c6 : ¬ s6.1 0 = 0 := fun g => c (hP.1.symm.trans g)
    have cq := q_neq c
    have s1 := nw (tq_subr e1 (m.1 0)) (by have := hM.2.1; omega)
    have h6 := (h6.1 c6).2
    have d10 := (md10 (x := s6.1 1) ⟨p3, p4⟩).2
    obtain ⟨b, b1, b2⟩ := hP.2 0 (by have := hM.2.1; omega)
    have ix : Int32.toNatClampNeg ((((s6.1 1) + 10) - 1) - (((s6.1 1) + 10) - 1) / 10 * 10) = ((s6.1 1).toInt.toNat + 9 - 0) % 10 := by
      rw [tn_i, d10]
      by_cases c : (s6.1 1).toInt = 0
      · rw [if_pos c]
        omega
      · rw [if_neg c]
        omega
    rw [ix, b1] at h6
    obtain ⟨S, h6, aS⟩ := e0_copyAll h6
    have h6 := h6.2 (by decide)
    have hr : (((va_up (va_up s6.1 0 ((s6.1 0) - 1)) 1 ((((s6.1 1) + 10) - 1) - (((s6.1 1) + 10) - 1) / 10 * 10)), s6.2) : Pa).1 0 = m.1 0 - 1 := by
      show s6.1 0 - 1 = _
      rw [hP.1]
    rw [hr] at h6
    obtain ⟨R4, W4, D4, g1, _⟩ := pw_ok hM (j := 0) (by have := hM.2.1; omega)
    refine ⟨_, _, _, u, h6, g7, RB_cg g1 (fun i hi => k5 i (by omega)) (RB_ag g1 aS b2), ⟨?_, fun j hj => ?_⟩, k3, k4 2 (by decide)⟩
    · rw [hr, k1]
      rfl
    · have u0 : u.1 0 = m.1 0 - 1 := by rw [k1]; rfl
      rw [u0, s1] at hj
      obtain ⟨b', c1, c2⟩ := hP.2 (j + 1) (by omega)
      have ix2 : (((((s6.1 1) + 10) - 1) - (((s6.1 1) + 10) - 1) / 10 * 10).toInt.toNat + 9 - j) % 10 = ((s6.1 1).toInt.toNat + 9 - (j + 1)) % 10 := by
        have := hM.2.1
        rw [d10]
        by_cases c : (s6.1 1).toInt = 0
        · rw [if_pos c]
          omega
        · rw [if_neg c]
          omega
      refine ⟨b', ?_, ?_⟩
      · show s6.2 ((((((s6.1 1) + 10) - 1) - (((s6.1 1) + 10) - 1) / 10 * 10).toInt.toNat + 9 - j) % 10) = _
        rw [ix2]
        exact c1
      · have ep : pw u j = pw m (j + 1) := by
          funext i
          unfold pw
          have eN : 6896 * ((m.1 0 - 1).toInt.toNat - 1 - j) + i = 6896 * ((m.1 0).toInt.toNat - 1 - (j + 1)) + i := by
            rw [s1]
            omega
          rw [u0, k4 1 (by decide), eN]
        rw [ep]
        exact c2
/-! the shelves -/
def RSh (z7 : Nat → Option Bd) (m : Md) : Prop := ∀ k : Nat, k < 2 → (z7 k = none ∧ m.2.2.2 0 k = 0) ∨ (∃ b, z7 k = some b ∧ ¬ m.2.2.2 0 k = 0 ∧ RB b (fun i => m.2.2.1 2 (6896 * k + i)))
def KP (s : Md) (x : Int32) (r : Int32) (u : Md) : Prop := ((x.toInt < 0 ∨ 1 < x.toInt) ∧ r = -1 ∧ u = s) ∨ ((0 ≤ x.toInt ∧ x.toInt ≤ 1) ∧ r = Int64.toInt32 (s.2.2.1 0 0) * Int64.toInt32 (s.2.2.1 0 1) ∧ u.1 = s.1 ∧ u.2.1 = s.2.1 ∧ (∀ k, ¬ k = 2 → u.2.2.1 k = s.2.2.1 k) ∧ (∀ i : Nat, i < 6896 → u.2.2.1 2 (6896 * x.toInt.toNat + i) = s.2.2.1 0 i) ∧ (∀ k : Nat, k < 2 → ¬ k = x.toInt.toNat → ∀ i : Nat, i < 6896 → u.2.2.1 2 (6896 * k + i) = s.2.2.1 2 (6896 * k + i)) ∧ ¬ u.2.2.2 0 x.toInt.toNat = 0 ∧ (∀ k : Nat, ¬ k = x.toInt.toNat → u.2.2.2 0 k = s.2.2.2 0 k) ∧ (∀ j, ¬ j = 0 → u.2.2.2 j = s.2.2.2 j))
theorem wr_keep {s0 : Md} {x1 : Int32} : wp_X7_keep (KP s0 x1) s0 x1 := by
  unfold wp_X7_keep
  have e0 : (0 : Int32).toInt = 0 := rfl
  have l0 : (0 : Int64).toInt = 0 := rfl
  have l1 : (1 : Int64).toInt = 1 := rfl
  have x64 := tq_64 x1
  refine wq_X7_in (fun r1 b => ⟨fun c => ?_, fun c => ?_⟩)
  · have c2 := q_neq c
    have hx : 0 ≤ x1.toInt ∧ x1.toInt ≤ 1 := by omega
    obtain ⟨nf, hf⟩ := fu_e 7000
    refine ⟨nf, wq_X7_keep_L14 (s := s0) hx (fun t z b1 b2 b3 b4 b5 b6 => ?_) nf s0 0 rfl rfl rfl (fun _ _ => rfl) (fun i hi => ?_) (fun _ _ => rfl) (by omega) (by omega)⟩
    · refine ⟨vi (by omega) (by omega), ?_⟩
      unfold wp_X7_cells wp_X7_rows wp_X7_wide
      have t0 : t.2.2.1 0 = s0.2.2.1 0 := b4 0 (by decide)
      refine Or.inr ⟨hx, ?_, b1, b2, b4, fun i hi => ?_, fun k hk hn i hi => ?_, ?_, fun k hk => ?_, fun j hj => ?_⟩
      · show Int64.toInt32 (t.2.2.1 0 0) * Int64.toInt32 (t.2.2.1 0 1) = _
        rw [t0]
      · have q := b5 i hi
        rw [Nat.zero_add] at q
        exact q
      · exact b6 _ (by omega)
      · show ¬ upd (t.2.2.2 0) (Int32.toNatClampNeg x1) (vp_nar .boolean 1) x1.toInt.toNat = 0
        rw [tn_i]
        show ¬ (if x1.toInt.toNat = x1.toInt.toNat then (vp_nar .boolean 1) else _) = 0
        rw [if_pos rfl]
        decide
      · show (if k = Int32.toNatClampNeg x1 then (vp_nar .boolean 1) else t.2.2.2 0 k) = _
        rw [tn_i, if_neg hk, b3]
      · show va_up t.2.2.2 0 _ j = _
        rw [va_up_ne _ _ hj, b3]
    · omega
  · exact Or.inl ⟨by
      have c2 := q_eq c
      omega, rfl, rfl⟩
theorem e6_isShelf {P : Int32 → Prop} {x : Int32} (h : wp_X6_isShelf P x) : (P 1 ∧ 0 ≤ x.toInt ∧ x.toInt ≤ 1) ∨ (P 0 ∧ (x.toInt < 0 ∨ 1 < x.toInt)) := by
  have e0 : (0 : Int32).toInt = 0 := rfl
  have e2 : (2 : Int32).toInt = 2 := rfl
  unfold wp_X6_isShelf at h
  by_cases c : x < 0
  · have := q_lt c
    exact Or.inr ⟨h.1 c, by omega⟩
  · have h := h.2 c
    have := q_nlt c
    by_cases c2 : 2 ≤ x
    · have := q_le c2
      exact Or.inr ⟨h.1 c2, by omega⟩
    · have := q_nle c2
      exact Or.inl ⟨h.2 c2, by omega⟩
theorem RP_k {p : Pa} {m u : Md} (h : RP p m) (h0 : u.1 0 = m.1 0) (h1 : u.2.2.1 1 = m.2.2.1 1) : RP p u := by
  have ep : ∀ j, pw u j = pw m j := fun j => by
    funext i
    unfold pw
    rw [h0, h1]
  refine ⟨h.1.trans h0.symm, fun j hj => ?_⟩
  rw [h0] at hj
  rw [ep]
  exact h.2 j hj
theorem RSh_k {z : Nat → Option Bd} {m u : Md} (h : RSh z m) (h0 : u.2.2.2 0 = m.2.2.2 0) (h1 : u.2.2.1 2 = m.2.2.1 2) : RSh z u := by
  intro k hk
  rw [h0, h1]
  exact h k hk
theorem sm_keep {P6 : Int32 → (Nat → Option Bd) → Prop} {P7 : Int32 → Md → Prop} {z7 : Nat → Option Bd} {s2 : Bd} {m : Md} {x : Int32} {N R W D : Int} (hS : RSh z7 m) (hB : RB s2 (m.2.2.1 0)) (hM : mb N R W D m) (h6 : wp_X6_keep P6 s2 z7 x) (h7 : wp_X7_keep P7 m x) : ∃ r z m', P6 r z ∧ P7 r m' ∧ RSh z m' ∧ m'.1 0 = m.1 0 ∧ m'.2.2.1 0 = m.2.2.1 0 ∧ m'.2.2.1 1 = m.2.2.1 1 := by
  obtain ⟨r, u, g7, k7⟩ := db2 (F := fun P => wp_X7_keep P m x) (dt_X7_keep m x) h7 (wr_keep (s0 := m) (x1 := x))
  unfold wp_X6_keep at h6
  rcases e6_isShelf h6 with ⟨h6, x0, x1⟩ | ⟨h6, hx⟩
  · rcases k7 with ⟨k1, _⟩ | ⟨_, rfl, k1, k2, k3, k4, k5, k6, k8, k9⟩
    · omega
    · have h6 := (h6.1 (by decide)).2
      rw [tn_i] at h6
      have er : Int64.toInt32 (m.2.2.1 0 0) * Int64.toInt32 (m.2.2.1 0 1) = s2.1 0 * s2.1 1 := by rw [hB.1.1, hB.1.2.1]
      have C : ∃ S, AG S s2 ∧ P6 (s2.1 0 * s2.1 1) (va_up z7 x.toInt.toNat (some S)) := by
        cases hc : z7 x.toInt.toNat with
        | none =>
          rw [hc] at h6
          obtain ⟨S, g, a⟩ := e0_copyAll h6
          exact ⟨S, a, cells6_e g⟩
        | some S2 =>
          rw [hc] at h6
          obtain ⟨S, g, a⟩ := e0_copyAll h6
          exact ⟨S, a, cells6_e g⟩
      obtain ⟨S, aS, g6⟩ := C
      rw [er] at g7
      refine ⟨_, _, u, g6, g7, fun k hk => ?_, by rw [k1], k3 0 (by decide), k3 1 (by decide)⟩
      have rR := hM.2.2.2.2.1
      by_cases c : k = x.toInt.toNat
      · subst c
        exact Or.inr ⟨S, va_up_self _ _ _, k6, RB_cg rR (fun i hi => k4 i (by omega)) (RB_ag rR aS hB)⟩
      · rcases hS k hk with ⟨a1, a2⟩ | ⟨b, a1, a2, a3⟩
        · exact Or.inl ⟨(va_up_ne _ _ c).trans a1, (k8 k c).trans a2⟩
        · obtain ⟨R4, W4, D4, g1, _⟩ := hM.2.2.2.2.2.2.1 k hk a2
          exact Or.inr ⟨b, (va_up_ne _ _ c).trans a1, by rw [k8 k c]; exact a2, RB_cg g1 (fun i hi => k5 k hk c i (by omega)) a3⟩
  · rcases k7 with ⟨_, rfl, rfl⟩ | ⟨k1, _⟩
    · exact ⟨_, _, _, h6.2 rfl, g7, hS, rfl, rfl, rfl⟩
    · omega
def BK (s : Md) (x : Int32) (r : Int32) (u : Md) : Prop := ((x.toInt < 0 ∨ 1 < x.toInt) ∧ r = -1 ∧ u = s) ∨ ((0 ≤ x.toInt ∧ x.toInt ≤ 1) ∧ s.2.2.2 0 x.toInt.toNat = 0 ∧ r = -2 ∧ u = s) ∨ ((0 ≤ x.toInt ∧ x.toInt ≤ 1) ∧ ¬ s.2.2.2 0 x.toInt.toNat = 0 ∧ r = Int64.toInt32 (s.2.2.1 2 (6896 * x.toInt.toNat + 0)) * Int64.toInt32 (s.2.2.1 2 (6896 * x.toInt.toNat + 1)) ∧ u.1 0 = 0 ∧ u.2.2.2 = s.2.2.2 ∧ (∀ k, ¬ k = 0 → u.2.2.1 k = s.2.2.1 k) ∧ (∀ i : Nat, i < 6896 → u.2.2.1 0 i = s.2.2.1 2 (6896 * x.toInt.toNat + i)))
theorem wr_back {s0 : Md} {x1 : Int32} : wp_X7_back (BK s0 x1) s0 x1 := by
  unfold wp_X7_back
  have e0 : (0 : Int32).toInt = 0 := rfl
  have l0 : (0 : Int64).toInt = 0 := rfl
  have l1 : (1 : Int64).toInt = 1 := rfl
  have x64 := tq_64 x1
  refine wq_X7_in (fun r1 b => ⟨fun c => ?_, fun c => ?_⟩)
  · have c2 := q_neq c
    have hx : 0 ≤ x1.toInt ∧ x1.toInt ≤ 1 := by omega
    have ti := tn_i x1
    refine ⟨vi (by omega) (by omega), fun g => ?_, fun g => Or.inr (Or.inl ⟨hx, by rw [← ti]; exact g, rfl, rfl⟩)⟩
    rw [ti] at g
    obtain ⟨nf, hf⟩ := fu_e 7000
    refine ⟨nf, wq_X7_back_L26 (s := s0) hx (fun t z b1 b2 b3 b4 b5 b6 => ?_) nf s0 0 rfl rfl rfl (fun _ _ => rfl) (fun i hi => ?_) (fun _ _ => rfl) (by omega) (by omega)⟩
    · unfold wp_X7_cells wp_X7_rows wp_X7_wide
      have q0 := b5 0 (by omega)
      have q1 := b5 1 (by omega)
      rw [Nat.zero_add] at q1
      refine Or.inr (Or.inr ⟨hx, g, ?_, rfl, b3, b4, fun i hi => ?_⟩)
      · show Int64.toInt32 (t.2.2.1 0 0) * Int64.toInt32 (t.2.2.1 0 1) = _
        rw [q1]
        exact congrArg (fun y => Int64.toInt32 y * _) q0
      · have q := b5 i hi
        rw [Nat.zero_add] at q
        exact q
    · omega
  · exact Or.inl ⟨by
      have c2 := q_eq c
      omega, rfl, rfl⟩
theorem sm_back {P6 : Int32 → Bd → Pa → (Nat → Option Bd) → Prop} {P7 : Int32 → Md → Prop} {s6 : Pa} {z7 : Nat → Option Bd} {s2 : Bd} {m : Md} {x : Int32} {N R W D : Int} (hP : RP s6 m) (hS : RSh z7 m) (hB : RB s2 (m.2.2.1 0)) (hM : mb N R W D m) (h6 : wp_X6_back P6 s2 s6 z7 x) (h7 : wp_X7_back P7 m x) : ∃ r b p z m', P6 r b p z ∧ P7 r m' ∧ RB b (m'.2.2.1 0) ∧ RP p m' ∧ RSh z m' := by
  have e0 : (0 : Int32).toInt = 0 := rfl
  obtain ⟨r, u, g7, k7⟩ := db2 (F := fun P => wp_X7_back P m x) (dt_X7_back m x) h7 (wr_back (s0 := m) (x1 := x))
  unfold wp_X6_back at h6
  rcases e6_isShelf h6 with ⟨h6, x0, x1⟩ | ⟨h6, hx⟩
  · have h6 := (h6.1 (by decide)).2
    rw [tn_i] at h6
    rcases k7 with ⟨k1, _⟩ | ⟨_, k0, rfl, rfl⟩ | ⟨_, k0, rfl, k1, k3, k4, k5⟩
    · omega
    · rcases hS x.toInt.toNat (by omega) with ⟨a1, a2⟩ | ⟨b, a1, a2, a3⟩
      · rw [a1] at h6
        exact ⟨_, _, _, _, _, h6, g7, hB, hP, hS⟩
      · exact (a2 k0).elim
    · rcases hS x.toInt.toNat (by omega) with ⟨a1, a2⟩ | ⟨b, a1, a2, a3⟩
      · exact (k0 a2).elim
      · rw [a1] at h6
        obtain ⟨S, h6, aS⟩ := e0_copyAll h6
        have h6 := cells6_e h6
        have er : Int64.toInt32 (m.2.2.1 2 (6896 * x.toInt.toNat + 0)) * Int64.toInt32 (m.2.2.1 2 (6896 * x.toInt.toNat + 1)) = S.1 0 * S.1 1 := by
          rw [aS.1.1, aS.1.2.1, a3.1.1, a3.1.2.1]
        rw [er] at g7
        obtain ⟨R4, W4, D4, g1, _⟩ := hM.2.2.2.2.2.2.1 x.toInt.toNat (by omega) a2
        refine ⟨_, _, _, _, u, h6, g7, RB_cg g1 (fun i hi => k5 i (by omega)) (RB_ag g1 aS a3), ⟨?_, fun j hj => ?_⟩, RSh_k hS (by rw [k3]) (k4 2 (by decide))⟩
        · show 0 = u.1 0
          rw [k1]
        · rw [k1] at hj
          omega
  · rcases k7 with ⟨_, rfl, rfl⟩ | ⟨k1, _⟩ | ⟨k1, _⟩
    · exact ⟨_, _, _, _, _, h6.2 rfl, g7, hB, hP, hS⟩
    · omega
    · omega
