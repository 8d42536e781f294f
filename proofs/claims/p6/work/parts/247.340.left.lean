/-! left. -/
theorem b64 {x : Int} (h : -4611686018427387904 ≤ x ∧ x < 4611686018427387904) : x.bmod (2 ^ 64) = x := by
  rw [Int.bmod_def]
  omega
def lei (f : Nat → Int64) (c : Nat) : Int32 := nI (LE f c).toNat
def cui (f : Nat → Int64) (c : Nat) : Int32 := nI (CU f c).toNat
theorem nI_i {k : Nat} (h : k ≤ 68960) : (nI k).toInt = (k : Int) := tq_ofn h
theorem lei_e {f : Nat → Int64} {c : Nat} {r : Int32} (h : r.toInt = LE f c) (hb : 0 ≤ LE f c ∧ LE f c ≤ 39) : r = lei f c := Int32.toInt_inj.mp (by
  unfold lei
  rw [nI_i (by omega)]
  omega)
theorem cui_e {f : Nat → Int64} {c : Nat} {r : Int32} (h : r.toInt = CU f c) (hb : 1 ≤ CU f c ∧ CU f c ≤ 9) : r = cui f c := Int32.toInt_inj.mp (by
  unfold cui
  rw [nI_i (by omega)]
  omega)
def SA (f : Nat → Int64) : Nat → Int32
  | 0 => 0
  | n + 1 => SA f n + lei f n
def SB (f : Nat → Int64) : Nat → Int32
  | 0 => 0
  | n + 1 => SB f n + lei f n * cui f n
def MA (f : Nat → Int64) : Nat → Int32
  | 0 => 0
  | n + 1 => if MA f n < lei f n then lei f n else MA f n
theorem SB_b {f : Nat → Int64} {s : Bd} {R W D : Int} (hf : rw_ok R W D f) (hD : 0 < D) (hB : RB s f) : ∀ n : Nat, (n : Int) ≤ R * W → 0 ≤ (SB f n).toInt ∧ (SB f n).toInt ≤ 351 * n := by
  have hR := hf.2.2.2.2.2.1
  intro n
  induction n with
  | zero =>
    intro _
    show 0 ≤ (0 : Int32).toInt ∧ (0 : Int32).toInt ≤ 351 * ((0 : Nat) : Int)
    decide
  | succ n ih =>
    intro hn
    have i := ih (by omega)
    have lb := LE_b hf hD (c := n) (by omega)
    have cb := CU_b hf hD hB (c := n) (by omega)
    have l1 : (lei f n).toInt = LE f n := by unfold lei; rw [nI_i (by omega)]; omega
    have c1 : (cui f n).toInt = CU f n := by unfold cui; rw [nI_i (by omega)]; omega
    have p0 : 0 ≤ LE f n * CU f n := Int.mul_nonneg lb.1 (by omega)
    have p1 : LE f n * CU f n ≤ 39 * 9 := Int.mul_le_mul lb.2 cb.2.1 (by omega) (by omega)
    have m : (lei f n * cui f n).toInt = LE f n * CU f n := by
      have := tq_mul (lei f n) (cui f n)
      rw [l1, c1] at this
      exact nw this (by omega)
    have a := nw (tq_add (SB f n) (lei f n * cui f n)) (by omega)
    show 0 ≤ (SB f n + lei f n * cui f n).toInt ∧ (SB f n + lei f n * cui f n).toInt ≤ 351 * ((n + 1 : Nat) : Int)
    omega
theorem e7_left_L {post : Int32 → Prop} {e : Int32 → Int32 → Int32 → Int32 → Int32 → Prop} {m : Md} {b : Bd} {z1 : Int32} {R W D : Int} (hf : rw_ok R W D (m.2.2.1 0)) (hD : 0 < D) (hB : RB b (m.2.2.1 0)) : ∀ (n : Nat) (z5 : Int32), 0 ≤ z5.toInt → z5.toInt ≤ R * W → wp_X7_left_L31 m post e n z1 (SA (m.2.2.1 0) z5.toInt.toNat) (MA (m.2.2.1 0) z5.toInt.toNat) (SB (m.2.2.1 0) z5.toInt.toNat) z5 → ∃ z, e z1 (SA (m.2.2.1 0) (R * W).toNat) (MA (m.2.2.1 0) (R * W).toNat) (SB (m.2.2.1 0) (R * W).toNat) z := by
  have e1 : (1 : Int32).toInt = 1 := rfl
  have hR := hf.2.2.2.2.2.1
  have rn := rw_n hf
  intro n
  induction n with
  | zero =>
    intro z5 _ _ h
    exact (show False from h).elim
  | succ n ih =>
    intro z5 h0 h1 h
    unfold wp_X7_left_L31 at h
    have h := cells7_e h
    by_cases c : Int64.toInt32 (m.2.2.1 0 0) * Int64.toInt32 (m.2.2.1 0 1) ≤ z5
    · have := q_le c
      have ez : z5.toInt.toNat = (R * W).toNat := by omega
      rw [ez] at h
      exact ⟨z5, h.1 c⟩
    · have := q_nle c
      have s := nw (tq_addr e1 z5) (by omega)
      have ss : (z5 + 1).toInt.toNat = z5.toInt.toNat + 1 := by omega
      have lb := LE_b hf hD (c := z5.toInt.toNat) (by omega)
      have cb := CU_b hf hD hB (c := z5.toInt.toNat) (by omega)
      obtain ⟨r1, h, q1⟩ := e7_leftOf hf hD h0 (by omega) (h.2 c)
      obtain ⟨r2, h, q2⟩ := e7_leftOf hf hD h0 (by omega) h
      obtain ⟨r3, h, q3⟩ := e7_current hf hD hB h0 (by omega) h
      obtain ⟨r4, h, q4⟩ := e7_leftOf hf hD h0 (by omega) h
      have f1 := lei_e q1 lb
      have f2 := lei_e q2 lb
      have f3 := cui_e q3 ⟨cb.1, cb.2.1⟩
      have f4 := lei_e q4 lb
      rw [f1, f2, f3, f4] at h
      by_cases g : lei (m.2.2.1 0) z5.toInt.toNat ≤ MA (m.2.2.1 0) z5.toInt.toNat
      · refine ih (z5 + 1) (by omega) (by omega) ?_
        rw [ss]
        show wp_X7_left_L31 m post e n z1 (SA (m.2.2.1 0) z5.toInt.toNat + lei (m.2.2.1 0) z5.toInt.toNat) (if MA (m.2.2.1 0) z5.toInt.toNat < lei (m.2.2.1 0) z5.toInt.toNat then lei (m.2.2.1 0) z5.toInt.toNat else MA (m.2.2.1 0) z5.toInt.toNat) (SB (m.2.2.1 0) z5.toInt.toNat + lei (m.2.2.1 0) z5.toInt.toNat * cui (m.2.2.1 0) z5.toInt.toNat) (z5 + 1)
        rw [if_neg (fun q => by have := q_lt q; have := q_le g; omega)]
        exact h.1 g
      · obtain ⟨r5, h, q5⟩ := e7_leftOf hf hD h0 (by omega) (h.2 g)
        have f5 := lei_e q5 lb
        rw [f5] at h
        refine ih (z5 + 1) (by omega) (by omega) ?_
        rw [ss]
        show wp_X7_left_L31 m post e n z1 (SA (m.2.2.1 0) z5.toInt.toNat + lei (m.2.2.1 0) z5.toInt.toNat) (if MA (m.2.2.1 0) z5.toInt.toNat < lei (m.2.2.1 0) z5.toInt.toNat then lei (m.2.2.1 0) z5.toInt.toNat else MA (m.2.2.1 0) z5.toInt.toNat) (SB (m.2.2.1 0) z5.toInt.toNat + lei (m.2.2.1 0) z5.toInt.toNat * cui (m.2.2.1 0) z5.toInt.toNat) (z5 + 1)
        rw [if_pos (Int32.lt_iff_toInt_lt.mpr (by have := q_nle g; omega))]
        exact h
theorem e0_all_L {P : Int32 → Prop} {b : Bd} {f : Nat → Int64} {z1 : Int32} {R W D : Int} (hf : rw_ok R W D f) (hD : 0 < D) (hB : RB b f) : ∀ (n : Nat) (z : Int32), 0 ≤ z.toInt → z.toInt ≤ R * W → wp_X0_leftOfAll_L4 b P (fun _ z2 _ => P z2) n z1 (if z1 = 0 then SA f z.toInt.toNat else SB f z.toInt.toNat) z → P (if z1 = 0 then SA f (R * W).toNat else SB f (R * W).toNat) := by
  have e1 : (1 : Int32).toInt = 1 := rfl
  have hR := hf.2.2.2.2.2.1
  have rc := RB_cells hf hB
  intro n
  induction n with
  | zero =>
    intro z _ _ h
    exact (show False from h).elim
  | succ n ih =>
    intro z h0 h1 h
    unfold wp_X0_leftOfAll_L4 at h
    have h := cells6_e h
    by_cases c : b.1 0 * b.1 1 ≤ z
    · have := q_le c
      have ez : z.toInt.toNat = (R * W).toNat := by omega
      rw [ez] at h
      exact h.1 c
    · have := q_nle c
      have s := nw (tq_addr e1 z) (by omega)
      have ss : (z + 1).toInt.toNat = z.toInt.toNat + 1 := by omega
      have lb := LE_b hf hD (c := z.toInt.toNat) (by omega)
      have cb := CU_b hf hD hB (c := z.toInt.toNat) (by omega)
      obtain ⟨r1, h, q1⟩ := e0_leftOf hf hD hB h0 (by omega) (h.2 c)
      have f1 := lei_e q1 lb
      rw [f1] at h
      refine ih (z + 1) (by omega) (by omega) ?_
      rw [ss]
      by_cases g : z1 = 0
      · rw [if_pos g] at h ⊢
        have h := h.1 g
        rw [Int32.mul_one] at h
        exact h
      · rw [if_neg g] at h ⊢
        obtain ⟨r2, h, q2⟩ := e0_currentOf hf hD hB h0 (by omega) (h.2 g)
        have f2 := cui_e q2 ⟨cb.1, cb.2.1⟩
        rw [f2] at h
        exact h
theorem e0_all {P : Int32 → Prop} {b : Bd} {f : Nat → Int64} {z1 : Int32} {R W D : Int} (hf : rw_ok R W D f) (hD : 0 < D) (hB : RB b f) (h : wp_X0_leftOfAll P b z1) : P (if z1 = 0 then SA f (R * W).toNat else SB f (R * W).toNat) := by
  have hR := hf.2.2.2.2.2.1
  obtain ⟨n, h⟩ := h
  refine e0_all_L hf hD hB n 0 (by decide) (by show (0 : Int) ≤ R * W; omega) ?_
  by_cases g : z1 = 0
  · rw [if_pos g]
    exact h
  · rw [if_neg g]
    exact h
theorem e0_most_L {P : Int32 → Prop} {b : Bd} {f : Nat → Int64} {R W D : Int} (hf : rw_ok R W D f) (hD : 0 < D) (hB : RB b f) : ∀ (n : Nat) (z : Int32), 0 ≤ z.toInt → z.toInt ≤ R * W → wp_X0_mostLeft_L4 b P (fun z1 _ => P z1) n (MA f z.toInt.toNat) z → P (MA f (R * W).toNat) := by
  have e1 : (1 : Int32).toInt = 1 := rfl
  have hR := hf.2.2.2.2.2.1
  have rc := RB_cells hf hB
  intro n
  induction n with
  | zero =>
    intro z _ _ h
    exact (show False from h).elim
  | succ n ih =>
    intro z h0 h1 h
    unfold wp_X0_mostLeft_L4 at h
    have h := cells6_e h
    by_cases c : b.1 0 * b.1 1 ≤ z
    · have := q_le c
      have ez : z.toInt.toNat = (R * W).toNat := by omega
      rw [ez] at h
      exact h.1 c
    · have := q_nle c
      have s := nw (tq_addr e1 z) (by omega)
      have ss : (z + 1).toInt.toNat = z.toInt.toNat + 1 := by omega
      have lb := LE_b hf hD (c := z.toInt.toNat) (by omega)
      obtain ⟨r1, h, q1⟩ := e0_leftOf hf hD hB h0 (by omega) (h.2 c)
      have f1 := lei_e q1 lb
      rw [f1] at h
      refine ih (z + 1) (by omega) (by omega) ?_
      rw [ss]
      exact h
theorem e0_most {P : Int32 → Prop} {b : Bd} {f : Nat → Int64} {R W D : Int} (hf : rw_ok R W D f) (hD : 0 < D) (hB : RB b f) (h : wp_X0_mostLeft P b) : P (MA f (R * W).toNat) := by
  have hR := hf.2.2.2.2.2.1
  obtain ⟨n, h⟩ := h
  exact e0_most_L hf hD hB n 0 (by decide) (by show (0 : Int) ≤ R * W; omega) h
theorem lt_div {a l : Int32} {y : Int64} (ha : 0 ≤ a.toInt ∧ a.toInt ≤ 20000) (hl : 1 ≤ l.toInt ∧ l.toInt ≤ 99) (hy : y.toInt = l.toInt) : Int64.toInt32 (((Int32.toInt64 a + y) - 1) / y) = (a + l - 1) / l := by
  have e1 : (1 : Int32).toInt = 1 := rfl
  have E1 : (1 : Int64).toInt = 1 := rfl
  have a1 := nw (tq_add a l) (by omega)
  have a2 := nw (tq_subr e1 (a + l)) (by omega)
  have c1 : (Int32.toInt64 a + y).toInt = a.toInt + l.toInt := by
    rw [Int64.toInt_add, Int32.toInt_toInt64, hy]
    exact b64 (by omega)
  have c2 : (Int32.toInt64 a + y - 1).toInt = a.toInt + l.toInt - 1 := by
    rw [Int64.toInt_sub, c1, E1]
    exact b64 (by omega)
  have nn : 0 ≤ a.toInt + l.toInt - 1 := by omega
  have qb : 0 ≤ (a.toInt + l.toInt - 1) / l.toInt ∧ (a.toInt + l.toInt - 1) / l.toInt ≤ a.toInt + l.toInt - 1 := ⟨Int.ediv_nonneg nn (by omega), Int.ediv_le_self _ nn⟩
  have c3 : ((Int32.toInt64 a + y - 1) / y).toInt = (a.toInt + l.toInt - 1) / l.toInt := by
    rw [Int64.toInt_div, c2, hy, Int.tdiv_eq_ediv_of_nonneg nn]
    exact b64 (by omega)
  refine Int32.toInt_inj.mp ?_
  rw [t32 (by omega), c3, Int32.toInt_div, bm32, a2, a1, Int.tdiv_eq_ediv_of_nonneg nn]
  omega
theorem sq_left {P6 P7 : Int32 → Prop} {s2 : Bd} {m : Md} {x1 : Int32} {N R W D : Int} (hB : RB s2 (m.2.2.1 0)) (hM : mb N R W D m) (hs : R ≤ 0 ∨ 0 < D) (h6 : wp_X6_left P6 s2 x1) (h7 : wp_X7_left P7 m x1) : ∃ r, P6 r ∧ P7 r := by
  have e0 : (0 : Int32).toInt = 0 := rfl
  have e1 : (1 : Int32).toInt = 1 := rfl
  have e2 : (2 : Int32).toInt = 2 := rfl
  have e3 : (3 : Int32).toInt = 3 := rfl
  have t2 : Int32.toNatClampNeg 2 = 2 := rfl
  have hf := hM.2.2.2.2.1
  have hR := hf.2.2.2.2.2.1
  have hL := hf.2.2.2.1
  have hL2 := hf.2.2.2.2.1
  have rc := RB_cells hf hB
  unfold wp_X6_left at h6
  unfold wp_X7_left at h7
  rcases e0_isThere h6 with ⟨h6, g⟩ | ⟨h6, g⟩
  · rcases e7_isBoard hf h7 with ⟨h7, hD⟩ | ⟨_, gD⟩
    · have h6 := h6.1 (by decide)
      rcases e7_inC (i := 0) (j := 3) rfl rfl (h7.2 (by decide)) with ⟨h7, j1, j2⟩ | ⟨h7, j⟩
      · obtain ⟨n, h7⟩ := h7.1 (by decide)
        obtain ⟨z, h7⟩ := e7_left_L hf hD hB n 0 (by decide) (by show (0 : Int) ≤ R * W; omega) h7
        have h7 := h7.2
        by_cases c0 : x1 = 0
        · have h6 := e0_all hf hD hB (h6.1 c0)
          rw [if_pos rfl] at h6
          exact ⟨_, h6, h7.2 c0⟩
        have h6 := h6.2 c0
        have h7 := h7.1 c0
        by_cases c1 : x1 = 1
        · exact ⟨_, e0_most hf hD hB (h6.1 c1), h7.2 c1⟩
        have h6 := h6.2 c1
        have h7 := h7.1 c1
        by_cases c2 : x1 = 2
        · have h6 := e0_all hf hD hB (h6.1 c2)
          rw [if_neg (by decide)] at h6
          exact ⟨_, h6, h7.2 c2⟩
        have h6 := h6.2 c2
        have h7 := h7.1 c2
        have c3 : x1 = 3 := by
          refine Int32.toInt_inj.mp ?_
          have n0 : ¬ x1.toInt = 0 := fun q => c0 (Int32.toInt_inj.mp q)
          have n1 : ¬ x1.toInt = 1 := fun q => c1 (Int32.toInt_inj.mp q)
          have n2 : ¬ x1.toInt = 2 := fun q => c2 (Int32.toInt_inj.mp q)
          omega
        have h6 := h6.1 c3
        unfold wp_X6_leastTicks at h6
        have h6 := e0_all hf hD hB h6
        have ei : (if (1 : Int32) = 0 then SA (m.2.2.1 0) (R * W).toNat else SB (m.2.2.1 0) (R * W).toNat) = SB (m.2.2.1 0) (R * W).toNat := if_neg (by decide)
        rw [ei] at h6
        have h6 := e0_most hf hD hB h6.2
        have lb := SB_b hf hD hB (R * W).toNat (by omega)
        have ll : (if (1 : Int32) < s2.1 2 then s2.1 2 else 1) = s2.1 2 := by
          by_cases q : (1 : Int32) < s2.1 2
          · rw [if_pos q]
          · rw [if_neg q]
            have := q_nlt q
            exact Int32.toInt_inj.mp (by omega)
        rw [ll] at h6
        have dv := lt_div (a := SB (m.2.2.1 0) (R * W).toNat) (l := s2.1 2) (y := m.2.2.1 0 2) (by omega) (by omega) (by omega)
        rw [t2, dv] at h7
        generalize (SB (m.2.2.1 0) (R * W).toNat + s2.1 2 - 1) / s2.1 2 = q at *
        by_cases g : q ≤ MA (m.2.2.1 0) (R * W).toNat
        · rw [if_neg (fun k => by have := q_lt k; have := q_le g; omega)] at h6
          exact ⟨_, h6, h7.1 g⟩
        · rw [if_pos (Int32.lt_iff_toInt_lt.mpr (by have := q_nle g; omega))] at h6
          exact ⟨_, h6, h7.2 g⟩
      · have n0 : ¬ x1 = 0 := fun q => by rw [q, e0] at j; omega
        have n1 : ¬ x1 = 1 := fun q => by rw [q, e1] at j; omega
        have n2 : ¬ x1 = 2 := fun q => by rw [q, e2] at j; omega
        have n3 : ¬ x1 = 3 := fun q => by rw [q, e3] at j; omega
        exact ⟨_, (((h6.2 n0).2 n1).2 n2).2 n3, h7.2 rfl⟩
    · omega
  · rcases e7_isBoard hf h7 with ⟨_, hD⟩ | ⟨h7, _⟩
    · omega
    · exact ⟨_, h6.2 rfl, h7.1 rfl⟩
