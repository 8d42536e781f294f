/-! How much is left, which current; how many were asked. -/
def LE (f : Nat → Int64) (c : Nat) : Int := if c_f f c 2 ≤ c_f f c 3 then c_f f c 3 - c_f f c 2 else c_f f c 3 - c_f f c 2 + flF f c
def CU (f : Nat → Int64) (c : Nat) : Int := (f (8 + 42 * (c_f f c 0).toNat)).toInt
theorem c32 {f : Nat → Int64} {R W D : Int} {c j : Nat} (hf : rw_ok R W D f) (hD : 0 < D) (hc : (c : Int) < R * W) (hj : j < 5) : (Int64.toInt32 (f (176 + 8 * c + j))).toInt = c_f f c j := by
  obtain ⟨q0, q1, q2, q3, q4, q5⟩ := cl_f hf hD hc
  have r := (hf.2.2.2.2.2.2.2 c q0.1).1
  have z : (f (176 + 8 * c + j)).toInt = c_f f c j := rfl
  have k := q1.2
  rcases (show j = 0 ∨ j = 1 ∨ j = 2 ∨ j = 3 ∨ j = 4 by omega) with rfl | rfl | rfl | rfl | rfl
  · rw [t32 (by omega)]
    exact z
  · rw [t32 (by omega)]
    exact z
  · rw [t32 (by omega)]
    exact z
  · rw [t32 (by omega)]
    exact z
  · rw [t32 (by omega)]
    exact z
theorem LE_b {f : Nat → Int64} {R W D : Int} {c : Nat} (hf : rw_ok R W D f) (hD : 0 < D) (hc : (c : Int) < R * W) : 0 ≤ LE f c ∧ LE f c ≤ 39 := by
  obtain ⟨q0, q1, q2, q3, q4, q5⟩ := cl_f hf hD hc
  have e : flF f c = d_f f (c_f f c 0).toNat := rfl
  unfold LE
  by_cases g : c_f f c 2 ≤ c_f f c 3
  · rw [if_pos g]
    omega
  · rw [if_neg g]
    omega
theorem e0_leftOf {P : Int32 → Prop} {s : Bd} {f : Nat → Int64} {x : Int32} {R W D : Int} (hf : rw_ok R W D f) (hD : 0 < D) (hB : RB s f) (h0 : 0 ≤ x.toInt) (h1 : x.toInt < R * W) (h : wp_X0_leftOf P s x) : ∃ r, P r ∧ r.toInt = LE f x.toInt.toNat := by
  have e0 : (0 : Int32).toInt = 0 := rfl
  obtain ⟨q0, q1, q2, q3, q4, q5⟩ := cl_f (c := x.toInt.toNat) hf hD (by omega)
  have rc := RB_cells hf hB
  have at_ := RB_x (c := x.toInt.toNat) hf hB (by omega)
  have c2 := c32 (j := 2) hf hD (c := x.toInt.toNat) (by omega) (by decide)
  have c3 := c32 (j := 3) hf hD (c := x.toInt.toNat) (by omega) (by decide)
  have c0 := c32 (j := 0) hf hD (c := x.toInt.toNat) (by omega) (by decide)
  unfold wp_X0_leftOf at h
  have h := h.2.2.2
  rw [tn_i, at_.1, at_.2.2.1, at_.2.2.2.1] at h
  have s1 := nw (tq_sub (Int64.toInt32 (f (176 + 8 * x.toInt.toNat + 3))) (Int64.toInt32 (f (176 + 8 * x.toInt.toNat + 2)))) (by omega)
  unfold LE
  by_cases c : 0 ≤ Int64.toInt32 (f (176 + 8 * x.toInt.toNat + 3)) - Int64.toInt32 (f (176 + 8 * x.toInt.toNat + 2))
  · have := q_le c
    exact ⟨_, h.1 c, by rw [if_pos (by omega)]; omega⟩
  · have := q_nle c
    have h := (h.2 c).2 (fun g => by have := q_lt g; omega)
    have h := (h.2 (fun g => by have := q_le g; omega)).2
    have td : Int32.toNatClampNeg (Int64.toInt32 (f (176 + 8 * x.toInt.toNat + 0))) = (c_f f x.toInt.toNat 0).toNat := by rw [tn_i, c0]
    rw [td] at h
    have k := RB_fl (d := (c_f f x.toInt.toNat 0).toNat) hf hB (by omega)
    have e : flF f x.toInt.toNat = d_f f (c_f f x.toInt.toNat 0).toNat := rfl
    have s2 := nw (tq_add (Int64.toInt32 (f (176 + 8 * x.toInt.toNat + 3)) - Int64.toInt32 (f (176 + 8 * x.toInt.toNat + 2))) (s.2.1 1 (c_f f x.toInt.toNat 0).toNat)) (by omega)
    exact ⟨_, h, by rw [if_neg (by omega)]; omega⟩
theorem e7_leftOf {P : Int32 → Prop} {s : Md} {x : Int32} {R W D : Int} (hf : rw_ok R W D (s.2.2.1 0)) (hD : 0 < D) (h0 : 0 ≤ x.toInt) (h1 : x.toInt < R * W) (h : wp_X7_leftOf P s x) : ∃ r, P r ∧ r.toInt = LE (s.2.2.1 0) x.toInt.toNat := by
  obtain ⟨q0, q1, q2, q3, q4, q5⟩ := cl_f (c := x.toInt.toNat) hf hD (by omega)
  have c2 := c32 (j := 2) hf hD (c := x.toInt.toNat) (by omega) (by decide)
  have c3 := c32 (j := 3) hf hD (c := x.toInt.toNat) (by omega) (by decide)
  unfold wp_X7_leftOf at h
  have h := e7_of (i := 2) h0 (by omega) rfl (by decide) h
  have h := e7_of (i := 3) h0 (by omega) rfl (by decide) h
  obtain ⟨F, h, eF, _⟩ := e7_flF hf hD h0 h1 h
  have e : flF (s.2.2.1 0) x.toInt.toNat = d_f (s.2.2.1 0) (c_f (s.2.2.1 0) x.toInt.toNat 0).toNat := rfl
  obtain ⟨r, h, g⟩ := e7_on (by omega) (by omega) (by omega) h
  refine ⟨r, h, ?_⟩
  unfold LE
  rcases g with ⟨g1, g2⟩ | ⟨g1, g2⟩
  · rw [if_pos (by omega)]
    omega
  · rw [if_neg (by omega)]
    omega
theorem CU_b {s : Bd} {f : Nat → Int64} {R W D : Int} {c : Nat} (hf : rw_ok R W D f) (hD : 0 < D) (hB : RB s f) (hc : (c : Int) < R * W) : 1 ≤ CU f c ∧ CU f c ≤ 9 ∧ (s.2.1 0 (c_f f c 0).toNat).toInt = CU f c := by
  obtain ⟨q0, q1, q2, q3, q4, q5⟩ := cl_f hf hD hc
  have q := hB.2.1.2 (c_f f c 0).toNat (by rw [hf.2.2.1]; omega)
  unfold CU
  refine ⟨q.1.2.1, q.1.2.2.1, ?_⟩
  have q7 := q.1.2.1
  have q8 := q.1.2.2.1
  rw [q.2.1, t32 (by omega)]
theorem e0_currentOf {P : Int32 → Prop} {s : Bd} {f : Nat → Int64} {x : Int32} {R W D : Int} (hf : rw_ok R W D f) (hD : 0 < D) (hB : RB s f) (h0 : 0 ≤ x.toInt) (h1 : x.toInt < R * W) (h : wp_X0_currentOf P s x) : ∃ r, P r ∧ r.toInt = CU f x.toInt.toNat := by
  have e0 : (0 : Int32).toInt = 0 := rfl
  obtain ⟨q0, q1, q2, q3, q4, q5⟩ := cl_f (c := x.toInt.toNat) hf hD (by omega)
  have rc := RB_cells hf hB
  have at_ := RB_x (c := x.toInt.toNat) hf hB (by omega)
  have c0 := c32 (j := 0) hf hD (c := x.toInt.toNat) (by omega) (by decide)
  unfold wp_X0_currentOf at h
  have h := h.2
  rw [tn_i, at_.1] at h
  have h := h.2 (fun g => by have := q_lt g; omega)
  have h := (h.2 (fun g => by have := q_le g; omega)).2
  have td : Int32.toNatClampNeg (Int64.toInt32 (f (176 + 8 * x.toInt.toNat + 0))) = (c_f f x.toInt.toNat 0).toNat := by rw [tn_i, c0]
  rw [td] at h
  exact ⟨_, h, (CU_b hf hD hB (by omega)).2.2⟩
theorem e7_current {P : Int32 → Prop} {s : Md} {b : Bd} {x : Int32} {R W D : Int} (hf : rw_ok R W D (s.2.2.1 0)) (hD : 0 < D) (hB : RB b (s.2.2.1 0)) (h0 : 0 ≤ x.toInt) (h1 : x.toInt < R * W) (h : wp_X7_current P s x) : ∃ r, P r ∧ r.toInt = CU (s.2.2.1 0) x.toInt.toNat := by
  obtain ⟨q0, q1, q2, q3, q4, q5⟩ := cl_f (c := x.toInt.toNat) hf hD (by omega)
  have c0 := c32 (j := 0) hf hD (c := x.toInt.toNat) (by omega) (by decide)
  have e42 : (42 : Int32).toInt = 42 := rfl
  have e8 : (8 : Int32).toInt = 8 := rfl
  unfold wp_X7_current wp_X7_currentOf at h
  have h := e7_of (i := 0) h0 (by omega) rfl (by decide) h
  have a1 := nw (tq_mulc e42 (Int64.toInt32 (s.2.2.1 0 (176 + 8 * x.toInt.toNat + 0)))) (by omega)
  have a2 := nw (tq_addc e8 (42 * Int64.toInt32 (s.2.2.1 0 (176 + 8 * x.toInt.toNat + 0)))) (by omega)
  have td : Int32.toNatClampNeg (8 + 42 * Int64.toInt32 (s.2.2.1 0 (176 + 8 * x.toInt.toNat + 0))) = 8 + 42 * (c_f (s.2.2.1 0) x.toInt.toNat 0).toNat := by rw [tn_i]; omega
  rw [td] at h
  refine ⟨_, h.2, ?_⟩
  have k := CU_b hf hD hB (c := x.toInt.toNat) (by omega)
  unfold CU at k ⊢
  rw [t32 (by omega)]
/-! how many -/
def ct (A : Nat → Bool) : Nat → Nat
  | 0 => 0
  | n + 1 => ct A n + (if A n = true then 1 else 0)
theorem ct_le (A : Nat → Bool) : ∀ n, ct A n ≤ n := by
  intro n
  induction n with
  | zero => exact Nat.le_refl _
  | succ n ih =>
    unfold ct
    by_cases c : A n = true
    · rw [if_pos c]
      omega
    · rw [if_neg c]
      omega
theorem ct_all {A : Nat → Bool} : ∀ n, ct A n = n → ∀ i, i < n → A i = true := by
  intro n
  induction n with
  | zero =>
    intro _ i hi
    omega
  | succ n ih =>
    intro h i hi
    unfold ct at h
    have l := ct_le A n
    by_cases c : A n = true
    · rw [if_pos c] at h
      by_cases e : i = n
      · rw [e]
        exact c
      · exact ih (by omega) i (by omega)
    · rw [if_neg c] at h
      omega
theorem ct_ad {A : Nat → Bool} {c : Nat} (hc : A c = false) : ∀ n, ct (ad A c) n = ct A n + (if c < n then 1 else 0) := by
  intro n
  induction n with
  | zero => rfl
  | succ n ih =>
    unfold ct
    rw [ih]
    by_cases e : n = c
    · subst e
      have a : ad A n n = true := by unfold ad; rw [decide_eq_true rfl, Bool.or_true]
      rw [if_neg (Nat.lt_irrefl n), if_pos a, if_neg (show ¬ A n = true by rw [hc]; decide), if_pos (Nat.lt_succ_self n)]
    · have a : ad A c n = A n := by unfold ad; rw [decide_eq_false e, Bool.or_false]
      rw [a]
      by_cases g : c < n
      · rw [if_pos g, if_pos (show c < n + 1 by omega)]
        omega
      · rw [if_neg g, if_neg (show ¬ c < n + 1 by omega)]
        omega
theorem PR_ct {n : Nat} {L C : Nat → Int} {lim : Int} : ∀ {k : Nat} {A T : Nat → Bool} {m : Nat} {u : Int}, PR n L C lim k A T m u → ct A n = k ∧ ct T n = m ∧ (∀ i, T i = true → A i = true) := by
  intro k
  induction k with
  | zero =>
    intro A T m u h
    obtain ⟨e1, e2, e3, e4⟩ := h
    have z : ∀ n, ct (fun _ => false) n = 0 := by
      intro n
      induction n with
      | zero => rfl
      | succ n ih =>
        unfold ct
        rw [ih]
        rfl
    rw [e1, e2, e3]
    exact ⟨z n, z n, fun i h => h⟩
  | succ k ih =>
    intro A T m u h
    obtain ⟨A1, T1, m1, u1, d, a, b, e, g⟩ := h
    have i := ih a
    rcases g with ⟨p1, p2, p3, p4⟩ | ⟨p1, p2, p3, p4⟩
    · have tf : T1 d = false := by
        cases e : T1 d with
        | false => rfl
        | true =>
          have g := b.2.2.1
          rw [i.2.2 d e] at g
          cases g
      rw [e, p2, p3]
      refine ⟨by rw [ct_ad b.2.2.1, if_pos b.1, i.1], by rw [ct_ad tf, if_pos b.1, i.2.1], fun j hi => ?_⟩
      unfold ad at hi ⊢
      rcases Bool.or_eq_true_iff.mp hi with g | g
      · rw [i.2.2 j g]
        rfl
      · rw [g, Bool.or_true]
    · rw [e, p2, p3]
      refine ⟨by rw [ct_ad b.2.2.1, if_pos b.1, i.1], i.2.1, fun j hi => ?_⟩
      unfold ad
      rw [i.2.2 j hi]
      rfl
