/-! Rows of signs on the tape; row, scroll. -/
theorem by_t {a : Int32} (h1 : 0 ≤ a.toInt) (h2 : a.toInt ≤ 127) : a &&& 255 = a := by
  have e : (a &&& 255).toBitVec.toNat = a.toBitVec.toNat % 256 := by
    rw [Int32.toBitVec_and, BitVec.toNat_and]
    exact Nat.and_two_pow_sub_one_eq_mod (n := 8) _
  have t2 : a.toInt = if 2 * a.toBitVec.toNat < 2 ^ 32 then (a.toBitVec.toNat : Int) else (a.toBitVec.toNat : Int) - ((2 ^ 32 : Nat) : Int) := BitVec.toInt_eq_toNat_cond _
  have l : a.toBitVec.toNat < 2 ^ 32 := a.toBitVec.isLt
  refine Int32.toBitVec_inj.mp (BitVec.eq_of_toNat_eq ?_)
  rw [e]
  by_cases c : 2 * a.toBitVec.toNat < 2 ^ 32
  · rw [if_pos c] at t2
    omega
  · rw [if_neg c] at t2
    omega
def SGN (y : Int32) : Prop := 32 ≤ y.toInt ∧ y.toInt ≤ 126 ∧ ¬ y = 39
theorem SGN_b {a : Int32} (h1 : -128 ≤ a.toInt) (h2 : a.toInt ≤ 127) : SGN (a &&& 255) ↔ SGN a := by
  constructor
  · intro h
    rw [by_s h1 h2 (by have := h.2.1; omega)] at h
    exact h
  · intro h
    rw [by_t (by have := h.1; omega) h2]
    exact h
theorem tb_in {t : Tp} {m : Md} {x : Int32} (hx : RX t m) (h0 : 0 ≤ x.toInt) (h1 : x.toInt < (m.1 5).toInt) : SGN (tb7 m x) ↔ SGN (m.2.2.2 2 (Int32.toNatClampNeg x)) := by
  unfold tb7
  rw [if_neg (fun c => by have := q_le c; omega)]
  have r := hx.2.2.2.2 (Int32.toNatClampNeg x)
  exact SGN_b r.1 r.2
theorem SG_to {m : Md} {q n : Int32} {z : Int32} (h0 : 0 ≤ z.toInt) (h1 : z.toInt < n.toInt) (h : SG m q n) : SGN (tb7 m (q + z)) := by
  have k := h z.toInt.toNat (by omega)
  rw [nI_tn h0] at k
  exact k
theorem SG_st {m : Md} {q n : Int32} (h : ∀ z : Int32, 0 ≤ z.toInt → z.toInt < n.toInt → SGN (tb7 m (q + z))) (hn : n.toInt ≤ 1000) : SG m q n := fun k hk => by
  have e := qk (q := 0) (k := k) (by decide) (by decide) (by omega)
  rw [Int32.zero_add] at e
  have e0 : (0 : Int32).toInt = 0 := rfl
  exact h (nI k) (by omega) (by omega)
theorem e6_rowText_L {t : Tp} {s : Bd} {m : Md} {q n0 : Int32} {p6 : Int32 → Prop} {e6 : Int32 → Int32 → Int32 → Prop} (hx : RX t m) (hq : 0 ≤ q.toInt) (hqn : q.toInt + n0.toInt ≤ (m.1 5).toInt) : ∀ (n : Nat) (z : Int32), 0 ≤ z.toInt → (∀ y : Int32, 0 ≤ y.toInt → y.toInt < z.toInt → SGN (tb7 m (q + y))) → wp_X6_isRowText_L15 t s p6 e6 n q n0 z → ((∃ z', e6 q n0 z') ∧ SG m q n0) ∨ (p6 0 ∧ ¬ SG m q n0) := by
  have bx := hx.2.2
  have e1 : (1 : Int32).toInt = 1 := rfl
  intro n
  induction n with
  | zero =>
    intro z _ _ h
    exact (show False from h).elim
  | succ n ih =>
    intro z h0 hk h
    unfold wp_X6_isRowText_L15 at h
    by_cases c : n0 ≤ z
    · have := q_le c
      exact Or.inl ⟨⟨z, h.1 c⟩, SG_st (fun y a b => hk y a (by omega)) (by omega)⟩
    · have c1 := q_nle c
      have a := nw (tq_addr e1 z) (by omega)
      have b := nw (tq_add q z) (by omega)
      have h := e5_byteAt (by omega) (h.2 c)
      rw [tb_eq hx] at h
      rcases e6_isSign h with ⟨h, g⟩ | ⟨h, g⟩
      · refine ih (z + 1) (by omega) (fun y y0 y1 => ?_) (h.1 (by decide))
        by_cases y2 : y.toInt = z.toInt
        · rw [Int32.toInt_inj.mp y2]
          exact g
        · exact hk y y0 (by omega)
      · refine Or.inr ⟨h.2 rfl, fun sg => ?_⟩
        have k := SG_to h0 c1 sg
        obtain ⟨k1, k2, k3⟩ := k
        rcases g with g | g | g
        · omega
        · omega
        · exact k3 g
theorem e7_areSigns_L {t : Tp} {v m : Md} {q n0 : Int32} {p7 : Int32 → Prop} {e7 : Int32 → Int32 → Int32 → Prop} (hx : RX t m) (hv : v.2.2.2 2 = m.2.2.2 2) (hq : 0 ≤ q.toInt) (hqn : q.toInt + n0.toInt ≤ (m.1 5).toInt) : ∀ (n : Nat) (z : Int32), 0 ≤ z.toInt → (∀ y : Int32, 0 ≤ y.toInt → y.toInt < z.toInt → SGN (tb7 m (q + y))) → wp_X7_areSigns_L2 v p7 e7 n q n0 z → ((∃ z', e7 q n0 z') ∧ SG m q n0) ∨ (p7 0 ∧ ¬ SG m q n0) := by
  have bx := hx.2.2
  have e1 : (1 : Int32).toInt = 1 := rfl
  intro n
  induction n with
  | zero =>
    intro z _ _ h
    exact (show False from h).elim
  | succ n ih =>
    intro z h0 hk h
    unfold wp_X7_areSigns_L2 at h
    by_cases c : n0 ≤ z
    · have := q_le c
      exact Or.inl ⟨⟨z, h.1 c⟩, SG_st (fun y a b => hk y a (by omega)) (by omega)⟩
    · have c1 := q_nle c
      have a := nw (tq_addr e1 z) (by omega)
      have b := nw (tq_add q z) (by omega)
      have h := (h.2 c).2
      rw [hv] at h
      have ti := tb_in (x := q + z) hx (by omega) (by omega)
      rcases e7_isSign h with ⟨h, g⟩ | ⟨h, g⟩
      · refine ih (z + 1) (by omega) (fun y y0 y1 => ?_) (h.1 (by decide))
        by_cases y2 : y.toInt = z.toInt
        · rw [Int32.toInt_inj.mp y2]
          exact ti.mpr g
        · exact hk y y0 (by omega)
      · refine Or.inr ⟨h.2 rfl, fun sg => ?_⟩
        obtain ⟨k1, k2, k3⟩ := ti.mp (SG_to h0 c1 sg)
        rcases g with g | g | g
        · omega
        · omega
        · exact k3 g
theorem e6_isRowText {P : Int32 → Prop} {t : Tp} {s : Bd} {m : Md} {q n0 : Int32} (hx : RX t m) (hq : 0 ≤ q.toInt) (hqn : q.toInt + n0.toInt ≤ (m.1 5).toInt) (h : wp_X6_isRowText P t s q n0) : (P 1 ∧ n0.toInt ≤ (s.1 1).toInt ∧ SG m q n0) ∨ (P 0 ∧ ¬ (n0.toInt ≤ (s.1 1).toInt ∧ SG m q n0)) := by
  unfold wp_X6_isRowText at h
  have e0 : (0 : Int32).toInt = 0 := rfl
  by_cases c : n0 ≤ s.1 1
  · have := q_le c
    obtain ⟨n, h⟩ := h.1 c
    rcases e6_rowText_L hx hq hqn n 0 (by decide) (fun y a b => by omega) h with ⟨⟨_, h⟩, g⟩ | ⟨h, g⟩
    · exact Or.inl ⟨h, this, g⟩
    · exact Or.inr ⟨h, fun k => g k.2⟩
  · have := q_nle c
    exact Or.inr ⟨h.2 c, fun k => by have := k.1; omega⟩
theorem e7_areSigns {P : Int32 → Prop} {t : Tp} {v m : Md} {q n0 : Int32} (hx : RX t m) (hv : v.2.2.2 2 = m.2.2.2 2) (hq : 0 ≤ q.toInt) (hqn : q.toInt + n0.toInt ≤ (m.1 5).toInt) (h : wp_X7_areSigns P v q n0) : (P 1 ∧ SG m q n0) ∨ (P 0 ∧ ¬ SG m q n0) := by
  have e0 : (0 : Int32).toInt = 0 := rfl
  unfold wp_X7_areSigns at h
  obtain ⟨n, h⟩ := h
  rcases e7_areSigns_L hx hv hq hqn n 0 (by decide) (fun y a b => by omega) h with ⟨⟨_, h⟩, g⟩ | ⟨h, g⟩
  · exact Or.inl ⟨h, g⟩
  · exact Or.inr ⟨h, g⟩
theorem e7_isRowText {P : Int32 → Prop} {t : Tp} {v m : Md} {n0 : Int32} {R W D : Int} (hf : rw_ok R W D (v.2.2.1 0)) (hx : RX t m) (hv : v.2.2.2 2 = m.2.2.2 2) (hqn : n0.toInt ≤ (m.1 5).toInt) (h : wp_X7_isRowText P v n0) : (P 1 ∧ n0.toInt ≤ W ∧ SG m 0 n0) ∨ (P 0 ∧ ¬ (n0.toInt ≤ W ∧ SG m 0 n0)) := by
  have e0 : (0 : Int32).toInt = 0 := rfl
  have rn := rw_n hf
  unfold wp_X7_isRowText at h
  have h := wide_e h
  by_cases c : Int64.toInt32 (v.2.2.1 0 1) < n0
  · have := q_lt c
    exact Or.inr ⟨h.1 c, fun k => by have := k.1; omega⟩
  · have := q_nlt c
    rcases e7_areSigns hx hv (q := 0) (by decide) (by rw [e0]; omega) (h.2 c) with ⟨h, g⟩ | ⟨h, g⟩
    · exact Or.inl ⟨h.2 (by decide), by omega, g⟩
    · exact Or.inr ⟨h.1 rfl, fun k => g k.2⟩
theorem sm_row {P6 : Int32 → Tp → Bd → Pa → Prop} {P7 : Int32 → Md → Prop} {s1 : Tp} {s6 : Pa} {s2 : Bd} {m : Md} {x1 : Int32} {N R W D : Int} (hx : RX s1 m) (hp : pa s6) (hP : RP s6 m) (hB : RB s2 (m.2.2.1 0)) (hM : mb N R W D m) (hs : R ≤ 0 ∨ 0 < D) (h6 : wp_X6_row P6 s1 s2 s6 x1) (h7 : wp_X7_row P7 m x1) : ∃ r t b p m', P6 r t b p ∧ P7 r m' ∧ AR m m' b p := by
  have e0 : (0 : Int32).toInt = 0 := rfl
  have hf := hM.2.2.2.2.1
  have hR := hf.2.2.2.2.2.1
  have rc := RB_cells hf hB
  have sz : s1.1 0 = m.1 5 := hx.1
  have bx := hx.2.2
  have M5 : mb 0 R W D ((va_up m.1 5 0), m.2.1, m.2.2.1, m.2.2.2) := by
    obtain ⟨a0, a1, a2, a3, a4, a5, a6, a7⟩ := id hM
    exact ⟨rfl, a1, ⟨by omega, by omega⟩, a3, a4, a5, a6, a7⟩
  have fl : ∀ r t, P6 r t s2 s6 → P7 r ((va_up m.1 5 0), m.2.1, m.2.2.1, m.2.2.2) → ∃ r t b p m', P6 r t b p ∧ P7 r m' ∧ AR m m' b p := fun r t a b => ⟨r, t, s2, s6, _, a, b, hB, RP_k hP rfl rfl, rfl, rfl⟩
  unfold wp_X6_row wp_X6_whyNotRow at h6
  unfold wp_X7_row at h7
  rw [sz] at h6
  rcases e0_hasRow h6 with ⟨h6, g1, g2⟩ | ⟨h6, g⟩
  · rcases e7_isRow M5.2.2.2.2.1 h7 with ⟨h7, _, _⟩ | ⟨_, g⟩
    · have h6 := h6.1 (by decide)
      have h7 := h7.1 (by decide)
      rcases e6_isRowText hx (q := 0) (by decide) (by rw [e0]; omega) h6 with ⟨h6, j1, j2⟩ | ⟨h6, j⟩
      · rcases e7_isRowText (m := m) M5.2.2.2.2.1 hx rfl (by omega) h7 with ⟨h7, _⟩ | ⟨_, j⟩
        · have h6 := (h6.2 (by decide)).2 rfl
          have h7 := h7.1 (by decide)
          obtain ⟨p, u, h6, h7, q1, q2, q3, q4, q5, q6⟩ := sm_push hp (RP_k (u := ((va_up m.1 5 0), m.2.1, m.2.2.1, m.2.2.2)) hP rfl rfl) hB M5 hs h6 h7
          have u0 : u.2.2.1 0 = m.2.2.1 0 := q6 0 (by decide)
          have hD : 0 < D := by omega
          obtain ⟨r, b', v', h6, h7, B', M', F'⟩ := sm_wantSigns (m0 := m) hD hx ⟨g1, by omega⟩ (by decide) (by omega) (by rw [e0]; omega) j2 (by rw [u0]; exact hB) q2 (by rw [q5]) h6 h7
          exact ⟨r, _, b', p, v', h6, h7, B', RP_k q1 (by rw [F'.1]) (F'.2.2.1 1 (by decide)), by rw [F'.2.2.2, q5], (F'.2.2.1 2 (by decide)).trans (q6 2 (by decide))⟩
        · exact (j ⟨by omega, j2⟩).elim
      · rcases e7_isRowText (m := m) M5.2.2.2.2.1 hx rfl (by omega) h7 with ⟨_, k1, k2⟩ | ⟨h7, _⟩
        · exact (j ⟨by omega, k2⟩).elim
        · exact fl _ _ ((h6.1 rfl).1 (by decide)) (h7.2 rfl)
    · omega
  · rcases e7_isRow M5.2.2.2.2.1 h7 with ⟨_, _, _⟩ | ⟨h7, _⟩
    · omega
    · exact fl _ _ ((h6.2 rfl).1 (by decide)) (h7.2 rfl)
