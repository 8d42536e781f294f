/-! wear, mend, exchange. -/
def flF (f : Nat → Int64) (c : Nat) : Int := d_f f (c_f f c 0).toNat
def CN (r6 r7 : Int32) : Prop := r6 = r7 ∨ ∃ y : Int64, wp_J13_bitCount_95d88 (fun r => r6 = r) y ∧ wp_X7_bits (fun r => r7 = r) y
theorem cells_D {R W D : Int} {x : Int} {f : Nat → Int64} (hf : rw_ok R W D f) (hs : R ≤ 0 ∨ 0 < D) (h0 : 0 ≤ x) (h : x < R * W) : 0 < D := by
  have hR := hf.2.2.2.2.2.1
  rcases hs with a | a
  · have : R = 0 := by omega
    rw [this, Int.zero_mul] at h
    omega
  · exact a
theorem e0_flF {P : Int32 → Prop} {s : Bd} {f : Nat → Int64} {x : Int32} {R W D : Int} (hf : rw_ok R W D f) (hD : 0 < D) (hB : RB s f) (h0 : 0 ≤ x.toInt) (h1 : x.toInt < R * W) (h : wp_X0_flapsOf P s x) : ∃ r, P r ∧ r.toInt = flF f x.toInt.toNat ∧ 2 ≤ flF f x.toInt.toNat ∧ flF f x.toInt.toNat ≤ 40 := by
  obtain ⟨d, a1, a2, a3, a4, a5, a6, a7, a8, a9, a10, a11⟩ := cell_x (c := x.toInt.toNat) hf hD hB (by omega)
  have q := e0_flapsOf a1 a5 (by omega) h
  have ef : flF f x.toInt.toNat = d_f f d := by
    unfold flF
    rw [a6]
    rfl
  exact ⟨_, q, by omega, by omega, by omega⟩
theorem e7_flF {P : Int32 → Prop} {s : Md} {x : Int32} {R W D : Int} (hf : rw_ok R W D (s.2.2.1 0)) (hD : 0 < D) (h0 : 0 ≤ x.toInt) (h1 : x.toInt < R * W) (h : wp_X7_flaps P s x) : ∃ r, P r ∧ r.toInt = flF (s.2.2.1 0) x.toInt.toNat ∧ 2 ≤ flF (s.2.2.1 0) x.toInt.toNat ∧ flF (s.2.2.1 0) x.toInt.toNat ≤ 40 := by
  obtain ⟨q0, q1, q2, q3, q4, q5⟩ := cl_f (c := x.toInt.toNat) hf hD (by omega)
  unfold wp_X7_flaps at h
  have h := e7_of (i := 0) h0 (by omega) rfl (by decide) h
  have e : (Int64.toInt32 (s.2.2.1 0 (176 + 8 * x.toInt.toNat + 0))).toInt = c_f (s.2.2.1 0) x.toInt.toNat 0 := by
    rw [t32 (by unfold c_f at q0; omega)]
    rfl
  have h := e7_flapsOf (by omega) (by omega) h
  rw [e] at h
  refine ⟨_, h, ?_, q1.1, q1.2⟩
  rw [t32 (by unfold d_f at q1; omega)]
  rfl
theorem e0_hasFlap {P : Int32 → Prop} {s : Bd} {f : Nat → Int64} {x y : Int32} {R W D : Int} (hf : rw_ok R W D f) (hs : R ≤ 0 ∨ 0 < D) (hB : RB s f) (h : wp_X0_hasFlap P s x y) : (P 1 ∧ (0 ≤ x.toInt ∧ x.toInt < R * W) ∧ 0 ≤ y.toInt ∧ y.toInt < flF f x.toInt.toNat ∧ flF f x.toInt.toNat ≤ 40) ∨ (P 0 ∧ ¬ ((0 ≤ x.toInt ∧ x.toInt < R * W) ∧ 0 ≤ y.toInt ∧ y.toInt < flF f x.toInt.toNat)) := by
  have e0 : (0 : Int32).toInt = 0 := rfl
  have hc := RB_cells hf hB
  unfold wp_X0_hasFlap at h
  rcases e0_hasCell hc.2.2.1 h with ⟨h, g1, g2⟩ | ⟨h, g⟩
  · have h := h.2 (by decide)
    by_cases c : y < 0
    · have := q_lt c
      exact Or.inr ⟨h.1 c, by omega⟩
    · have := q_nlt c
      obtain ⟨r, h, a, _, b⟩ := e0_flF hf (cells_D hf hs g1 g2) hB g1 g2 (h.2 c)
      by_cases c2 : r ≤ y
      · have := q_le c2
        exact Or.inr ⟨h.1 c2, by omega⟩
      · have := q_nle c2
        exact Or.inl ⟨h.2 c2, by omega⟩
  · exact Or.inr ⟨h.1 rfl, by omega⟩
theorem e7_isFlap {P : Int32 → Prop} {s : Md} {x y : Int32} {R W D : Int} (hf : rw_ok R W D (s.2.2.1 0)) (hs : R ≤ 0 ∨ 0 < D) (h : wp_X7_isFlap P s x y) : (P 1 ∧ (0 ≤ x.toInt ∧ x.toInt < R * W) ∧ 1 ≤ y.toInt ∧ y.toInt < flF (s.2.2.1 0) x.toInt.toNat ∧ flF (s.2.2.1 0) x.toInt.toNat ≤ 40) ∨ (P 0 ∧ ¬ ((0 ≤ x.toInt ∧ x.toInt < R * W) ∧ 1 ≤ y.toInt ∧ y.toInt < flF (s.2.2.1 0) x.toInt.toNat)) := by
  unfold wp_X7_isFlap at h
  rcases e7_isCell hf h with ⟨h, g1, g2⟩ | ⟨h, g⟩
  · obtain ⟨r, h, a, b1, b⟩ := e7_flF hf (cells_D hf hs g1 g2) g1 g2 (h.2 (by decide))
    rcases e7_in0 (i := 1) rfl a (by omega) h with ⟨h, j1, j2⟩ | ⟨h, j⟩
    · exact Or.inl ⟨h.2 (by decide), by omega⟩
    · exact Or.inr ⟨h.1 rfl, by omega⟩
  · exact Or.inr ⟨h.1 rfl, by omega⟩
theorem cn_e {P6 P7 : Int32 → Prop} {y : Int64} (h6 : wp_J13_bitCount_95d88 P6 y) (h7 : wp_X7_bits P7 y) : ∃ r6 r7, P6 r6 ∧ P7 r7 ∧ CN r6 r7 := by
  obtain ⟨r7, p7, mk, _⟩ := dt_X7_bits y P7 h7
  unfold wp_J13_bitCount_95d88 at h6
  exact ⟨_, r7, h6, p7, Or.inr ⟨y, by unfold wp_J13_bitCount_95d88; rfl, mk _ rfl⟩⟩
theorem sm_wear {P6 : Int32 → Bd → Pa → Prop} {P7 : Int32 → Md → Prop} {s6 : Pa} {s2 : Bd} {m : Md} {x1 x2 : Int32} {N R W D : Int} (hp : pa s6) (hP : RP s6 m) (hB : RB s2 (m.2.2.1 0)) (hM : mb N R W D m) (hs : R ≤ 0 ∨ 0 < D) (h6 : wp_X6_wear P6 s2 s6 x1 x2) (h7 : wp_X7_wear P7 m x1 x2) : ∃ r6 r7 b p m', P6 r6 b p ∧ P7 r7 m' ∧ AR m m' b p ∧ CN r6 r7 := by
  have e0 : (0 : Int32).toInt = 0 := rfl
  have hf := hM.2.2.2.2.1
  have k40 : R * W ≤ 40 := hf.2.2.2.2.2.1.2.2.2.2.2.1
  have hc := RB_cells hf hB
  have fl : ∀ r, P6 r s2 s6 → P7 r m → ∃ r6 r7 b p m', P6 r6 b p ∧ P7 r7 m' ∧ AR m m' b p ∧ CN r6 r7 := fun r a b => ⟨r, r, s2, s6, m, a, b, ⟨hB, hP, rfl, rfl⟩, Or.inl rfl⟩
  unfold wp_X6_wear at h6
  unfold wp_X7_wear at h7
  rcases e7_isFlap hf hs h7 with ⟨h7, ⟨g1, g2⟩, g3, g4, g5⟩ | ⟨h7, g⟩
  · rcases e0_hasFlap hf hs hB h6 with ⟨h6, _⟩ | ⟨_, g⟩
    · have n0 : ¬ x2 = 0 := fun c => by have := q_eq c; omega
      have h6 := (h6.2 (by decide)).1 n0
      have h7 := e7_wornOf g1 (by omega) (h7.1 (by decide))
      have at_ := (RB_at (c := x1.toInt.toNat) hf hB (by omega)).2
      rw [← at_] at h7
      rcases e7_isIn (by omega) h7 with ⟨h7, b7⟩ | ⟨h7, b7⟩
      · rcases e0_isWorn (by omega) h6 with ⟨h6, b6⟩ | ⟨h6, b6⟩
        · exact fl _ (h6.2 (by decide)) (h7.2 (by decide))
        · rw [b7] at b6
          cases b6
      · rcases e0_isWorn (by omega) h6 with ⟨h6, b6⟩ | ⟨h6, b6⟩
        · rw [b7] at b6
          cases b6
        · obtain ⟨p, u, h6, h7, q1, q2, q3, q4, q5, q6⟩ := sm_push hp hP hB hM hs (h6.1 rfl) (h7.1 rfl)
          have u0 : u.2.2.1 0 = m.2.2.1 0 := q6 0 (by decide)
          have h7 := dt_conj (dt_X7_wears u x1 x2) h7 (wq_X7_wears (post := fun v => mb N R W D v) q2 ⟨g1, by omega⟩ (cells_D hf hs g1 g2) (fun v a _ => a))
          obtain ⟨b', v', h6, ⟨h7, mv⟩, f1, hB'⟩ := sm_wears q2.2.2.2.2.1 (by rw [u0]; exact hB) g1 g2 k40 (by omega) h6 h7
          have h7 := e7_wornOf g1 (by omega) h7
          unfold wp_X0_wornCount at h6
          have h6 := h6.2
          rw [tn_i, (RB_at (c := x1.toInt.toNat) mv.2.2.2.2.1 hB' (by omega)).2] at h6
          obtain ⟨r6, r7, h6, h7, cn⟩ := cn_e h6 h7
          exact ⟨r6, r7, _, _, v', h6, h7, ⟨hB', RP_k q1 (by rw [f1.1]) (f1.2.2.1 1 (by decide)), by rw [f1.2.2.2, q5], (f1.2.2.1 2 (by decide)).trans (q6 2 (by decide))⟩, cn⟩
    · omega
  · have h7 := h7.2 rfl
    rcases e0_hasFlap hf hs hB h6 with ⟨h6, g⟩ | ⟨h6, _⟩
    · have n0 : x2 = 0 := Int32.toInt_inj.mp (by omega)
      exact fl _ ((h6.2 (by decide)).2 n0) h7
    · exact fl _ (h6.1 rfl) h7
/-- mend: HOME is a flap that is never worn; the answers there are told apart -/
theorem sm_mend {P6 : Int32 → Bd → Pa → Prop} {P7 : Int32 → Md → Prop} {s6 : Pa} {s2 : Bd} {m : Md} {x1 x2 : Int32} {N R W D : Int} (hp : pa s6) (hP : RP s6 m) (hB : RB s2 (m.2.2.1 0)) (hM : mb N R W D m) (hs : R ≤ 0 ∨ 0 < D) (h6 : wp_X6_mend P6 s2 s6 x1 x2) (h7 : wp_X7_mend P7 m x1 x2) : ∃ r6 r7 b p m', P6 r6 b p ∧ P7 r7 m' ∧ AR m m' b p := by
  have e0 : (0 : Int32).toInt = 0 := rfl
  have hf := hM.2.2.2.2.1
  have k40 : R * W ≤ 40 := hf.2.2.2.2.2.1.2.2.2.2.2.1
  have hc := RB_cells hf hB
  have fl : ∀ r q, P6 r s2 s6 → P7 q m → ∃ r6 r7 b p m', P6 r6 b p ∧ P7 r7 m' ∧ AR m m' b p := fun r q a b => ⟨r, q, s2, s6, m, a, b, ⟨hB, hP, rfl, rfl⟩⟩
  unfold wp_X6_mend at h6
  unfold wp_X7_mend at h7
  rcases e7_isFlap hf hs h7 with ⟨h7, ⟨g1, g2⟩, g3, g4, g5⟩ | ⟨h7, g⟩
  · rcases e0_hasFlap hf hs hB h6 with ⟨h6, _⟩ | ⟨_, g⟩
    · have h6 := h6.1 (by decide)
      have h7 := e7_wornOf g1 (by omega) (h7.1 (by decide))
      have at_ := RB_at (c := x1.toInt.toNat) hf hB (by omega)
      rw [← at_.2] at h7
      rcases e7_isIn (by omega) h7 with ⟨h7, b7⟩ | ⟨h7, b7⟩
      · rcases e0_isWorn (by omega) h6 with ⟨h6, b6⟩ | ⟨h6, b6⟩
        · obtain ⟨p, u, h6, h7, q1, q2, q3, q4, q5, q6⟩ := sm_push hp hP hB hM hs (h6.1 (by decide)) (h7.1 (by decide))
          have u0 : u.2.2.1 0 = m.2.2.1 0 := q6 0 (by decide)
          have h7 := e7_wornOf g1 (by omega) h7
          obtain ⟨w, h7, f1, gw⟩ := e7_sets (i := 7) g1 (by omega) rfl (by decide) h7
          have h7 := e7_wornOf g1 (by omega) h7
          obtain ⟨r7, h7, _⟩ := xf_dt (dt_X7_bits _) _ h7
          unfold wp_X0_mendFlap wp_X0_wornCount wp_J13_bitCount_95d88 at h6
          have h6 := h6.2.2.2
          rw [tn_i] at h6
          refine ⟨_, r7, _, _, w, h6, h7, ?_, RP_k q1 (by rw [f1.1]) (f1.2.2.1 1 (by decide)), by rw [f1.2.2.2, q5], (f1.2.2.1 2 (by decide)).trans (q6 2 (by decide))⟩
          rw [gw, u0]
          refine RB_c (c := x1.toInt.toNat) hB rfl ⟨rfl, rfl, rfl⟩ (fun j hj i hi => rfl) (fun i hi => uL_n hi) (fun i hi => uL_n (by omega)) ⟨fun j hj => ?_, ?_⟩
          · show s2.2.1 (3 + j) x1.toInt.toNat = _
            rw [uL_n (by omega)]
            exact at_.1 j hj
          · refine ⟨?_, ?_⟩
            · show vp_updL s2.2.2.1 x1.toInt.toNat _ x1.toInt.toNat = _
              rw [uL_e, uL_e, at_.2]
            · rw [uL_e]
              have q := RB_w (c := x1.toInt.toNat) hf hB (by omega)
              unfold bs_at at q ⊢
              rw [Int64.toBitVec_and, BitVec.toNat_and, Nat.testBit_and, q]
              rfl
        · rw [b7] at b6
          cases b6
      · rcases e0_isWorn (by omega) h6 with ⟨h6, b6⟩ | ⟨h6, b6⟩
        · rw [b7] at b6
          cases b6
        · exact fl _ _ (h6.2 rfl) (h7.2 rfl)
    · omega
  · have h7 := h7.2 rfl
    rcases e0_hasFlap hf hs hB h6 with ⟨h6, g⟩ | ⟨h6, _⟩
    · have n0 : x2.toInt = 0 := by omega
      have h6 := h6.1 (by decide)
      rcases e0_isWorn (by omega) h6 with ⟨h6, b6⟩ | ⟨h6, b6⟩
      · exfalso
        have q := RB_w (c := x1.toInt.toNat) hf hB (by omega)
        rw [(RB_at (c := x1.toInt.toNat) hf hB (by omega)).2, n0] at b6
        have b6 : bs_at (m.2.2.1 0 (176 + 8 * x1.toInt.toNat + 7)) 0 = true := b6
        rw [q] at b6
        cases b6
      · exact fl _ _ (h6.2 rfl) h7
    · exact fl _ _ (h6.2 rfl) h7
/-! exchange -/
theorem e7_exch_L {p7 : Int32 → Md → Prop} {e7 : Md → Int32 → Int32 → Int32 → Int32 → Int64 → Int32 → Prop} {z1 z2 z3 z4 : Int32} {w5 : Int64} : ∀ (n : Nat) (s : Md) (z : Int32), 496 ≤ z.toInt → wp_X7_exchange_L109 p7 e7 n s z1 z2 z3 z4 w5 z → ∃ u z', e7 u z1 z2 z3 z4 w5 z' ∧ FN s u ∧ (∀ i : Nat, i < 496 → u.2.2.1 0 i = s.2.2.1 0 i) ∧ (∀ i : Nat, (i : Int) < z.toInt → u.2.2.1 0 i = s.2.2.1 0 i) ∧ (∀ i : Nat, z.toInt ≤ (i : Int) → i < 6896 → u.2.2.1 0 i = 0) := by
  have e1 : (1 : Int32).toInt = 1 := rfl
  have eK : (6896 : Int32).toInt = 6896 := rfl
  intro n
  induction n with
  | zero =>
    intro s z _ h
    exact (show False from h).elim
  | succ n ih =>
    intro s z h0 h
    unfold wp_X7_exchange_L109 at h
    by_cases c : 6896 ≤ z
    · have := q_le c
      exact ⟨s, z, h.1 c, FN_rf s, fun _ _ => rfl, fun _ _ => rfl, fun i g1 g2 => by omega⟩
    · have c1 := q_nle c
      have a := nw (tq_addr e1 z) (by omega)
      have h := (h.2 c).2
      rw [tn_i] at h
      obtain ⟨u, z', b1, b2, b3, b4, b5⟩ := ih (s.1, s.2.1, (va_up s.2.2.1 0 (vp_updL (s.2.2.1 0) z.toInt.toNat 0)), s.2.2.2) (z + 1) (by omega) h
      refine ⟨u, z', b1, FN_tr (FN_up s _) b2, fun i hi => ?_, fun i hi => ?_, fun i g1 g2 => ?_⟩
      · rw [b3 i hi]
        show vp_updL (s.2.2.1 0) z.toInt.toNat 0 i = _
        exact uL_n (by omega)
      · rw [b4 i (by omega)]
        show vp_updL (s.2.2.1 0) z.toInt.toNat 0 i = _
        exact uL_n (by omega)
      · by_cases g : (i : Int) = z.toInt
        · have ei : i = z.toInt.toNat := by omega
          rw [b4 i (by omega), ei]
          show vp_updL (s.2.2.1 0) z.toInt.toNat 0 z.toInt.toNat = _
          exact uL_e
        · exact b5 i (by omega) g2
theorem e0_flapsOn {P : Int32 → Prop} {s : Bd} {x : Int32} (h : wp_X0_flapsOn P s x) : ((0 ≤ x.toInt ∧ x.toInt < (s.1 3).toInt) ∧ P (s.2.1 1 x.toInt.toNat)) ∨ (¬ (0 ≤ x.toInt ∧ x.toInt < (s.1 3).toInt) ∧ P 0) := by
  have e0 : (0 : Int32).toInt = 0 := rfl
  unfold wp_X0_flapsOn at h
  by_cases c : x < 0
  · have := q_lt c
    exact Or.inr ⟨by omega, h.1 c⟩
  · have := q_nlt c
    have h := h.2 c
    by_cases c2 : s.1 3 ≤ x
    · have := q_le c2
      exact Or.inr ⟨by omega, h.1 c2⟩
    · have := q_nle c2
      have h := (h.2 c2).2
      rw [tn_i] at h
      exact Or.inl ⟨by omega, h⟩
theorem RB_fl {s : Bd} {f : Nat → Int64} {R W D : Int} {d : Nat} (hf : rw_ok R W D f) (hB : RB s f) (hd : (d : Int) < D) : (s.2.1 1 d).toInt = d_f f d ∧ 2 ≤ d_f f d ∧ d_f f d ≤ 40 := by
  have q := hB.2.1.2 d (by rw [hf.2.2.1]; exact hd)
  have k := hf.2.2.2.2.2.2.1 d hd
  refine ⟨?_, k⟩
  rw [q.2.2.1, t32 (by unfold d_f at k; omega)]
  rfl
theorem e0_isMovable {P : Int32 → Prop} {s : Bd} {f : Nat → Int64} {x y : Int32} {R W D : Int} (hf : rw_ok R W D f) (hB : RB s f) (h : wp_X0_isMovable P s x y) : (P 1 ∧ (0 ≤ x.toInt ∧ x.toInt < D) ∧ 1 ≤ y.toInt ∧ y.toInt < d_f f x.toInt.toNat ∧ d_f f x.toInt.toNat ≤ 40) ∨ (P 0 ∧ ¬ ((0 ≤ x.toInt ∧ x.toInt < D) ∧ 1 ≤ y.toInt ∧ y.toInt < d_f f x.toInt.toNat)) := by
  have e0 : (0 : Int32).toInt = 0 := rfl
  have e3 := (RB_cells hf hB).2.2.2.2
  unfold wp_X0_isMovable at h
  by_cases c : y ≤ 0
  · have := q_le c
    exact Or.inr ⟨h.1 c, by omega⟩
  · have := q_nle c
    rcases e0_flapsOn (h.2 c) with ⟨g, h⟩ | ⟨g, h⟩
    · have k := RB_fl (d := x.toInt.toNat) hf hB (by omega)
      by_cases c2 : s.2.1 1 x.toInt.toNat ≤ y
      · have := q_le c2
        exact Or.inr ⟨h.1 c2, by omega⟩
      · have := q_nle c2
        exact Or.inl ⟨h.2 c2, by omega⟩
    · exact Or.inr ⟨h.1 (by rw [Int32.le_iff_toInt_le]; omega), by omega⟩
theorem e7_mov {P : Int32 → Prop} {s : Md} {x y : Int32} {R W D : Int} (hf : rw_ok R W D (s.2.2.1 0)) (hx : 0 ≤ x.toInt ∧ x.toInt < D) (h : wp_X7_flapsOf (fun r => wp_X7_in P (Int32.toInt64 y) (1 : Int64) (Int32.toInt64 (r - 1))) s x) : (P 1 ∧ 1 ≤ y.toInt ∧ y.toInt < d_f (s.2.2.1 0) x.toInt.toNat) ∨ (P 0 ∧ ¬ (1 ≤ y.toInt ∧ y.toInt < d_f (s.2.2.1 0) x.toInt.toNat)) := by
  have hR := hf.2.2.2.2.2.1
  have k := hf.2.2.2.2.2.2.1 x.toInt.toNat (by omega)
  have h := e7_flapsOf (by omega) (by omega) h
  have e : (Int64.toInt32 (s.2.2.1 0 (8 + 42 * x.toInt.toNat + 1))).toInt = d_f (s.2.2.1 0) x.toInt.toNat := by
    rw [t32 (by unfold d_f at k; omega)]
    rfl
  rcases e7_in0 (i := 1) rfl e (by omega) h with ⟨h, g1, g2⟩ | ⟨h, g⟩
  · exact Or.inl ⟨h, g1, g2⟩
  · exact Or.inr ⟨h, by omega⟩
theorem ix40 {x y : Int32} (h0 : 0 ≤ x.toInt) (h1 : x.toInt < 4) (h2 : 0 ≤ y.toInt) (h3 : y.toInt < 40) : Int32.toNatClampNeg ((x * 40) + y) = 40 * x.toInt.toNat + y.toInt.toNat := by
  have e40 : (40 : Int32).toInt = 40 := rfl
  have a0 := tq_mul x 40
  rw [e40] at a0
  have a1 := nw a0 (by omega)
  have a2 := nw (tq_add (x * 40) y) (by omega)
  rw [tn_i]
  omega
theorem RB_swap {s u : Bd} {f g : Nat → Int64} {R W D : Int} {d a b : Nat} (hf : rw_ok R W D f) (hB : RB s f) (hd : (d : Int) < D) (ha : (a : Int) < d_f f d) (hb : (b : Int) < d_f f d) (ne : ¬ a = b) (u1 : u.1 = s.1) (u2 : u.2.1 = va_up s.2.1 2 (upd (upd (s.2.1 2) (40 * d + a) (s.2.1 2 (40 * d + b))) (40 * d + b) (s.2.1 2 (40 * d + a)))) (u3 : u.2.2.1 = s.2.2.1) (hg : ∀ i : Nat, i < 496 → g i = vp_updL (vp_updL f (8 + 42 * d + 2 + a) (f (8 + 42 * d + 2 + b))) (8 + 42 * d + 2 + b) (f (8 + 42 * d + 2 + a)) i) : RB u g := by
  have hR := hf.2.2.2.2.2.1
  have kd := (hf.2.2.2.2.2.2.1 d hd).2
  have hn : ∀ i : Nat, i < 496 → ¬ i = 8 + 42 * d + 2 + a → ¬ i = 8 + 42 * d + 2 + b → g i = f i := fun i hi h1 h2 => by
    rw [hg i hi, uL_n h2, uL_n h1]
  have sd := (hB.2.1.2 d (by rw [hf.2.2.1]; exact hd)).2.2.2
  have hD : (f 3).toInt = D := hf.2.2.1
  have hRW : (f 0).toInt * (f 1).toInt = R * W := by rw [hf.1, hf.2.1]
  obtain ⟨⟨b0, b1, b2, b3⟩, ⟨b4, b5⟩, b6⟩ := hB
  have g0 := hn 0 (by omega) (by omega) (by omega)
  have g1 := hn 1 (by omega) (by omega) (by omega)
  have g2 := hn 2 (by omega) (by omega) (by omega)
  have g3 := hn 3 (by omega) (by omega) (by omega)
  have uj : ∀ j, ¬ j = 2 → u.2.1 j = s.2.1 j := fun j hj => by rw [u2, va_n hj]
  have uu : u.2.1 2 = upd (upd (s.2.1 2) (40 * d + a) (s.2.1 2 (40 * d + b))) (40 * d + b) (s.2.1 2 (40 * d + a)) := by rw [u2]; exact va_up_self _ _ _
  refine ⟨by rw [u1, g0, g1, g2, g3]; exact ⟨b0, b1, b2, b3⟩, ⟨by rw [g3, g0, g1]; exact b4, fun e he => ?_⟩, fun c hc => ?_⟩
  · rw [g3] at he
    obtain ⟨c1, c2, c3, c4⟩ := b5 e he
    have c10 := c1.1
    have ed : d_f g e = d_f f e := by
      unfold d_f
      rw [hn _ (by omega) (by omega) (by omega)]
    rw [ed, uj 0 (by decide), uj 1 (by decide), hn (8 + 42 * e) (by omega) (by omega) (by omega), hn (8 + 42 * e + 1) (by omega) (by omega) (by omega)]
    have cg : DG g e := by
      by_cases q : e = d
      · subst q
        refine ⟨by rw [ed]; exact c1.1, by rw [hn _ (by omega) (by omega) (by omega)]; exact c1.2.1, by rw [hn _ (by omega) (by omega) (by omega)]; exact c1.2.2.1, fun k hk => ?_⟩
        rw [ed] at hk
        rw [hg _ (by omega)]
        by_cases qb : k = b
        · subst qb
          rw [uL_e]
          exact c1.2.2.2 a ha
        · by_cases qa : k = a
          · subst qa
            rw [uL_n (by omega), uL_e]
            exact c1.2.2.2 b hb
          · rw [uL_n (by omega), uL_n (by omega)]
            exact c1.2.2.2 k hk
      · exact DG_k c1 (fun i h1 h2 => hn i (by omega) (by omega) (by omega))
    refine ⟨cg, c2, c3, fun k hk => ?_⟩
    rw [uu]
    by_cases q : e = d
    · subst q
      by_cases qb : k = b
      · subst qb
        rw [up_e, hg _ (by omega), uL_e]
        exact sd a ha
      · by_cases qa : k = a
        · subst qa
          rw [up_n (by omega), up_e, hg _ (by omega), uL_n (by omega), uL_e]
          exact sd b hb
        · rw [up_n (by omega), up_n (by omega), hn _ (by omega) (by omega) (by omega)]
          exact c4 k hk
    · rw [up_n (by omega), up_n (by omega), hn _ (by omega) (by omega) (by omega)]
      exact c4 k hk
  · rw [g0, g1] at hc
    obtain ⟨c1, c2, c3⟩ := b6 c hc
    have hc9 : c < 40 := by omega
    rw [u3, hn (176 + 8 * c + 7) (by omega) (by omega) (by omega)]
    refine ⟨fun j hj => ?_, c2, c3⟩
    rw [uj _ (by omega), hn _ (by omega) (by omega) (by omega)]
    exact c1 j hj
theorem sm_exchange {P6 : Int32 → Bd → Pa → Prop} {P7 : Int32 → Md → Prop} {s6 : Pa} {s2 : Bd} {m : Md} {x1 x2 x3 : Int32} {N R W D : Int} (hp : pa s6) (hP : RP s6 m) (hB : RB s2 (m.2.2.1 0)) (hM : mb N R W D m) (hs : R ≤ 0 ∨ 0 < D) (h6 : wp_X6_exchange P6 s2 s6 x1 x2 x3) (h7 : wp_X7_exchange P7 m x1 x2 x3) : ∃ r b p m', P6 r b p ∧ P7 r m' ∧ AR m m' b p := by
  have hf := hM.2.2.2.2.1
  have hR := hf.2.2.2.2.2.1
  have fl : ∀ r, P6 r s2 s6 → P7 r m → ∃ r b p m', P6 r b p ∧ P7 r m' ∧ AR m m' b p := fun r a b => ⟨r, s2, s6, m, a, b, hB, hP, rfl, rfl⟩
  unfold wp_X6_exchange at h6
  unfold wp_X7_exchange at h7
  rcases e0_isMovable hf hB h6 with ⟨h6, g0, g1, g2, g3⟩ | ⟨h6, g⟩
  · have h6 := h6.2 (by decide)
    rcases e7_isDrum hf h7 with ⟨h7, _⟩ | ⟨_, g⟩
    · rcases e7_mov hf g0 (h7.2 (by decide)) with ⟨h7, _⟩ | ⟨_, g⟩
      · have h7 := e7_mov hf g0 (h7.2 (by decide))
        rcases e0_isMovable hf hB h6 with ⟨h6, _, g4, g5, _⟩ | ⟨h6, g⟩
        · rcases h7 with ⟨h7, _⟩ | ⟨_, g⟩
          · have h6 := h6.2 (by decide)
            have h7 := h7.2 (by decide)
            by_cases c : x2 = x3
            · exact fl _ (h6.2 c) (h7.2 c)
            · obtain ⟨p, u, h6, h7, q1, q2, q3, q4, q5, q6⟩ := sm_push hp hP hB hM hs (h6.1 c) (h7.1 c)
              have u0 : u.2.2.1 0 = m.2.2.1 0 := q6 0 (by decide)
              obtain ⟨n, h7⟩ := h7.2.2.2.2
              obtain ⟨w, z', h7, f1, f2, _⟩ := e7_exch_L n _ 496 (by decide) h7
              unfold wp_X0_swapSigns at h6
              rcases e0_isMovable hf hB h6 with ⟨h6, _⟩ | ⟨_, g⟩
              · rcases e0_isMovable hf hB (h6.2 (by decide)) with ⟨h6, _⟩ | ⟨_, g⟩
                · obtain ⟨bb, h6, e1, e2, e3⟩ := e0_emptyLog (h6.1 (by decide)).2.2.2.2
                  refine ⟨_, _, _, w, h6, h7, ?_, RP_k q1 (by rw [f1.1]) (f1.2.2.1 1 (by decide)), by rw [f1.2.2.2]; exact congrFun q5 0, (f1.2.2.1 2 (by decide)).trans (q6 2 (by decide))⟩
                  rw [ixs (by omega) (by omega) (by omega) (by omega), ixs (by omega) (by omega) (by omega) (by omega)] at f2
                  rw [ix40 (by omega) (by omega) (by omega) (by omega), ix40 (by omega) (by omega) (by omega) (by omega)] at e2
                  have ne : ¬ x2.toInt = x3.toInt := fun g => c (Int32.toInt_inj.mp g)
                  refine RB_swap (d := x1.toInt.toNat) (a := x2.toInt.toNat) (b := x3.toInt.toNat) hf hB (by omega) (by omega) (by omega) (by omega) e1 ?_ e3 ?_
                  · exact e2
                  · intro i hi
                    rw [f2 i hi]
                    show vp_updL (vp_updL (u.2.2.1 0) _ _) _ _ i = _
                    rw [u0]
                · omega
              · omega
          · omega
        · rcases h7 with ⟨_, g⟩ | ⟨h7, _⟩
          · omega
          · exact fl _ (h6.1 rfl) (h7.1 rfl)
      · omega
    · omega
  · rcases e7_isDrum hf h7 with ⟨h7, g0⟩ | ⟨h7, _⟩
    · rcases e7_mov hf g0 (h7.2 (by decide)) with ⟨_, g1⟩ | ⟨h7, _⟩
      · omega
      · exact fl _ (h6.1 rfl) (h7.1 rfl)
    · exact fl _ (h6.1 rfl) (h7.1 rfl)
