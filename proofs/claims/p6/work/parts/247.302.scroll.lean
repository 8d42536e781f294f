/-! scroll: each row wants what the one below it wanted. -/
def WS (f : Nat → Int64) (c j : Nat) : Int32 := Int64.toInt32 (f (8 + 42 * (c_f f c 0).toNat + 2 + (c_f f c j).toNat))
theorem WS_cg {f g : Nat → Int64} {c j : Nat} (h0 : g (176 + 8 * c + 0) = f (176 + 8 * c + 0)) (h1 : g (176 + 8 * c + j) = f (176 + 8 * c + j)) (h : ∀ i : Nat, i < 176 → g i = f i) (hb : 8 + 42 * (c_f f c 0).toNat + 2 + (c_f f c j).toNat < 176) : WS g c j = WS f c j := by
  unfold WS
  have e0 : c_f g c 0 = c_f f c 0 := by unfold c_f; rw [h0]
  have e1 : c_f g c j = c_f f c j := by unfold c_f; rw [h1]
  rw [e0, e1, h _ hb]
theorem e0_signOf {P : Int32 → Prop} {s : Bd} {f : Nat → Int64} {x y : Int32} {R W D : Int} (hf : rw_ok R W D f) (hB : RB s f) (hx : 0 ≤ x.toInt ∧ x.toInt < D) (hy : 0 ≤ y.toInt ∧ y.toInt < d_f f x.toInt.toNat) (h : wp_X0_signOf P s x y) : P (Int64.toInt32 (f (8 + 42 * x.toInt.toNat + 2 + y.toInt.toNat))) := by
  have e0 : (0 : Int32).toInt = 0 := rfl
  have hR := hf.2.2.2.2.2.1
  have rc := RB_cells hf hB
  have k := RB_fl (d := x.toInt.toNat) hf hB (by omega)
  unfold wp_X0_signOf at h
  have h := h.2 (fun c => by have := q_lt c; omega)
  have h := h.2 (fun c => by have := q_le c; omega)
  have h := (h.2 (fun c => by have := q_lt c; omega)).2
  rw [tn_i] at h
  have h := (h.1 (Int32.lt_iff_toInt_lt.mpr (by omega))).2
  rw [ix40 (by omega) (by omega) (by omega) (by omega)] at h
  have q := (hB.2.1.2 x.toInt.toNat (by rw [hf.2.2.1]; omega)).2.2.2 y.toInt.toNat (by omega)
  rw [q] at h
  exact h
theorem e0_signOn {P : Int32 → Prop} {s : Bd} {f : Nat → Int64} {x y : Int32} {j : Nat} {R W D : Int} (hf : rw_ok R W D f) (hD : 0 < D) (hB : RB s f) (hx : 0 ≤ x.toInt ∧ x.toInt < R * W) (hj : 1 ≤ j ∧ j ≤ 3) (hy : y = Int64.toInt32 (f (176 + 8 * x.toInt.toNat + j))) (h : wp_X0_signOn P s x y) : P (WS f x.toInt.toNat j) := by
  obtain ⟨q0, q1, q2, q3, q4, q5⟩ := cl_f (c := x.toInt.toNat) hf hD (by omega)
  have at_ := RB_x (c := x.toInt.toNat) hf hB (by omega)
  unfold wp_X0_signOn at h
  have h := h.2
  rw [tn_i, at_.1] at h
  have a0 : (Int64.toInt32 (f (176 + 8 * x.toInt.toNat + 0))).toInt = c_f f x.toInt.toNat 0 := by
    rw [t32 (by unfold c_f at q0; omega)]
    rfl
  have bj : 0 ≤ c_f f x.toInt.toNat j ∧ c_f f x.toInt.toNat j < d_f f (c_f f x.toInt.toNat 0).toNat := by
    rcases (show j = 1 ∨ j = 2 ∨ j = 3 by omega) with rfl | rfl | rfl
    · exact q2
    · exact q3
    · exact ⟨q4.1, q4.2⟩
  have aj : y.toInt = c_f f x.toInt.toNat j := by
    have z : (f (176 + 8 * x.toInt.toNat + j)).toInt = c_f f x.toInt.toNat j := rfl
    have := q1.2
    rw [hy, t32 (by omega)]
    exact z
  have h := e0_signOf hf hB (by omega) (by rw [a0]; omega) h
  rw [a0, aj] at h
  exact h
theorem e0_wantedSign {P : Int32 → Prop} {s : Bd} {f : Nat → Int64} {x : Int32} {R W D : Int} (hf : rw_ok R W D f) (hD : 0 < D) (hB : RB s f) (hx : 0 ≤ x.toInt ∧ x.toInt < R * W) (h : wp_X0_wantedSign P s x) : P (WS f x.toInt.toNat 3) := by
  have at_ := RB_x (c := x.toInt.toNat) hf hB (by omega)
  unfold wp_X0_wantedSign at h
  have h := h.2
  rw [tn_i] at h
  exact e0_signOn hf hD hB hx (by decide) at_.2.2.2.1 h
theorem e7_signAt {P : Int32 → Prop} {s : Md} {x k : Int32} {j : Nat} {R W D : Int} (hf : rw_ok R W D (s.2.2.1 0)) (hD : 0 < D) (hx : 0 ≤ x.toInt ∧ x.toInt < R * W) (hk : k.toInt = (j : Int)) (hj : 1 ≤ j ∧ j ≤ 3) (h : wp_X7_of (fun r => wp_X7_of (fun q => wp_X7_signOf P s r q) s x k) s x (0 : Int32)) : P (WS (s.2.2.1 0) x.toInt.toNat j) := by
  obtain ⟨q0, q1, q2, q3, q4, q5⟩ := cl_f (c := x.toInt.toNat) hf hD (by omega)
  have h := e7_of (i := 0) hx.1 (by omega) rfl (by decide) h
  have h := e7_of (i := j) hx.1 (by omega) hk (by omega) h
  have a0 : (Int64.toInt32 (s.2.2.1 0 (176 + 8 * x.toInt.toNat + 0))).toInt = c_f (s.2.2.1 0) x.toInt.toNat 0 := by
    rw [t32 (by unfold c_f at q0; omega)]
    rfl
  have bj : 0 ≤ c_f (s.2.2.1 0) x.toInt.toNat j ∧ c_f (s.2.2.1 0) x.toInt.toNat j < d_f (s.2.2.1 0) (c_f (s.2.2.1 0) x.toInt.toNat 0).toNat := by
    rcases (show j = 1 ∨ j = 2 ∨ j = 3 by omega) with rfl | rfl | rfl
    · exact q2
    · exact q3
    · exact ⟨q4.1, q4.2⟩
  have aj : (Int64.toInt32 (s.2.2.1 0 (176 + 8 * x.toInt.toNat + j))).toInt = c_f (s.2.2.1 0) x.toInt.toNat j := by
    have z : (s.2.2.1 0 (176 + 8 * x.toInt.toNat + j)).toInt = c_f (s.2.2.1 0) x.toInt.toNat j := rfl
    have := q1.2
    rw [t32 (by omega)]
    exact z
  have h := e7_signOf (by omega) (by omega) (by omega) (by omega) h
  rw [a0, aj] at h
  exact h
theorem e7_scr5_L {R W D : Int} {f : Nat → Int64} {z1 z2 z3 : Int32} {p7 : Int32 → Md → Prop} {e7 : Md → Int32 → Int32 → Int32 → Int32 → Prop} (hf : rw_ok R W D f) (hD : 0 < D) : ∀ (n : Nat) (s : Md) (z : Int32), s.2.2.1 0 = f → 0 ≤ z.toInt → (∀ c : Nat, (c : Int) < z.toInt → (c : Int) < R * W → s.2.2.2 1 c = WS f c 3) → wp_X7_scrolls_L5 p7 e7 n s z1 z2 z3 z → ∃ u z', e7 u z1 z2 z3 z' ∧ u.1 = s.1 ∧ u.2.1 = s.2.1 ∧ u.2.2.1 = s.2.2.1 ∧ (∀ k, ¬ k = 1 → u.2.2.2 k = s.2.2.2 k) ∧ (∀ c : Nat, (c : Int) < R * W → u.2.2.2 1 c = WS f c 3) := by
  have rn := rw_n hf
  have e1 : (1 : Int32).toInt = 1 := rfl
  intro n
  induction n with
  | zero =>
    intro s z _ _ _ h
    exact (show False from h).elim
  | succ n ih =>
    intro s z hr h0 hk h
    unfold wp_X7_scrolls_L5 at h
    have h := cells7_e h
    rw [hr] at h
    by_cases c : Int64.toInt32 (f 0) * Int64.toInt32 (f 1) ≤ z
    · have := q_le c
      exact ⟨s, z, h.1 c, rfl, rfl, rfl, fun _ _ => rfl, fun k h => hk k (by omega) h⟩
    · have c1 := q_nle c
      have a := nw (tq_addr e1 z) (by omega)
      have h := e7_signAt (s := s) (x := z) (j := 3) (by rw [hr]; exact hf) hD (by omega) rfl (by decide) (h.2 c)
      rw [hr, tn_i] at h
      obtain ⟨u, z', g1, g2, g3, g4, g5, g6⟩ := ih (s.1, s.2.1, s.2.2.1, (va_up s.2.2.2 1 (upd (s.2.2.2 1) z.toInt.toNat (WS f z.toInt.toNat 3)))) (z + 1) hr (by omega) (fun k k1 k2 => by
        show upd (s.2.2.2 1) z.toInt.toNat (WS f z.toInt.toNat 3) k = _
        by_cases e : k = z.toInt.toNat
        · rw [e]
          exact up_e
        · rw [up_n e]
          exact hk k (by omega) k2) h.2
      exact ⟨u, z', g1, g2, g3, g4, fun k hk => (g5 k hk).trans (va_n hk), g6⟩
theorem sm_scr_L {t : Tp} {N R W D : Int} {q n0 : Int32} {p6 : Int32 → Bd → Prop} {e6 : Bd → Int32 → Int32 → Int32 → Int32 → Prop} {p7 : Int32 → Md → Prop} {e7 : Md → Int32 → Int32 → Int32 → Int32 → Prop} (hD : 0 < D) : ∀ (n6 n7 : Nat) (b : Bd) (v : Md) (z5 z : Int32), 0 ≤ z.toInt → z.toInt ≤ 40 → RB b (v.2.2.1 0) → mb N R W D v → (∀ c : Nat, z.toInt ≤ (c : Int) → (c : Int) < R * W → v.2.2.2 1 c = WS (v.2.2.1 0) c 3) → wp_X0_scrollUp_L6 t p6 e6 n6 b q n0 z5 z → wp_X7_scrolls_L48 p7 e7 n7 v q n0 z5 z → ∃ b' v' r z6 z7, e6 b' q n0 r z6 ∧ e7 v' q n0 r z7 ∧ RB b' (v'.2.2.1 0) ∧ mb N R W D v' ∧ FN v v' := by
  have e1 : (1 : Int32).toInt = 1 := rfl
  intro n6
  induction n6 with
  | zero =>
    intro n7 b v z5 z _ _ _ _ _ h
    exact (show False from h).elim
  | succ n6 ih =>
    intro n7 b v z5 z h0 h1 hB hM hw h6 h7
    cases n7 with
    | zero => exact (show False from h7).elim
    | succ n7 =>
      have hf := hM.2.2.2.2.1
      have hR := hf.2.2.2.2.2.1
      have rn := rw_n hf
      have rc := RB_cells hf hB
      unfold wp_X0_scrollUp_L6 at h6
      unfold wp_X7_scrolls_L48 at h7
      have h6 := cells6_e h6
      have h7 := cells7_e (wide_e h7)
      rw [← hB.1.1, ← hB.1.2.1] at h7
      have a1 := nw (tq_sub (b.1 0 * b.1 1) (b.1 1)) (by omega)
      have a2 := nw (tq_add z (b.1 1)) (by omega)
      have a3 := nw (tq_addr e1 z) (by omega)
      by_cases c : b.1 0 * b.1 1 - b.1 1 ≤ z
      · have c1 := q_le c
        have c7 : b.1 0 * b.1 1 ≤ z + b.1 1 := Int32.le_iff_toInt_le.mpr (by omega)
        exact ⟨b, v, z5, z, z, h6.1 c, h7.1 c7, hB, hM, FN_rf v⟩
      · have c1 := q_nle c
        have c7 : ¬ b.1 0 * b.1 1 ≤ z + b.1 1 := fun g => by have := q_le g; omega
        have h6 := e0_wantedSign hf hD hB (by omega) (h6.2 c)
        have h7 := wide_e (h7.2 c7)
        rw [← hB.1.2.1] at h7
        have h7 := h7.2
        rw [tn_i, hw _ (by omega) (by omega)] at h7
        have at_ := RB_x (c := z.toInt.toNat) hf hB (by omega)
        obtain ⟨r6, h6, nv6⟩ := near6 hf hD (RB_d hB) h0 (by omega) at_.1 at_.2.2.1 at_.2.2.2.2.2.2.2 h6
        obtain ⟨r7, h7, nv7⟩ := near7 hf hD (RS_rf _ _) h0 (by omega) h7
        have er : r6 = r7 := NV_u hf hD (by omega) nv6 nv7
        subst er
        by_cases y : r6 = -1
        · rcases e0_wantFlap h6 with ⟨_, h6⟩ | ⟨y2, _⟩
          · obtain ⟨b', v', r', z6, z7, g1, g2, g3, g4, g5⟩ := ih n7 b v (z5 + 1) (z + 1) (by omega) (by omega) hB hM (fun k k1 k2 => hw k (by omega) k2) h6 (h7.2 y)
            exact ⟨b', v', r', z6, z7, g1, g2, g3, g4, g5⟩
          · exact (y2 y).elim
        · rcases NV_b nv7 with y2 | y2
          · exact (y y2).elim
          · obtain ⟨b2, v2, h6, h7, B2, M2, F2, X2⟩ := sm_wantFlapX hM hD hB h0 (by omega) ⟨y, y2.2.1, y2.2.2⟩ h6 (h7.1 y)
            rw [Int32.add_zero] at h6
            obtain ⟨b', v', r', z6, z7, g1, g2, g3, g4, g5⟩ := ih n7 b2 v2 z5 (z + 1) (by omega) (by omega) B2 M2 (fun k k1 k2 => by
              obtain ⟨q0, q1, q2, q3, q4, q5⟩ := cl_f (c := k) hf hD k2
              rw [F2.2.2.2, hw k (by omega) k2]
              exact (WS_cg (X2 _ (by omega) (by omega)) (X2 _ (by omega) (by omega)) (fun i hi => X2 i (by omega) (by omega)) (by omega)).symm) h6 h7
            exact ⟨b', v', r', z6, z7, g1, g2, g3, g4, FN_tr F2 g5⟩
theorem FN1_mb {N R W D : Int} {s u : Md} (hM : mb N R W D s) (h1 : u.1 = s.1) (h2 : u.2.2.1 = s.2.2.1) (h3 : u.2.2.2 0 = s.2.2.2 0) : mb N R W D u := by
  obtain ⟨a0, a1, a2, a3, a4, a5, a6, a7⟩ := id hM
  refine ⟨by rw [h1]; exact a0, by rw [h1]; exact a1, a2, a3, by rw [h2]; exact a4, ?_, ?_, by rw [h2]; exact a7⟩
  · rw [h1, h2]
    exact a5
  · rw [h2, h3]
    exact a6
theorem sm_scrolls {P6 : Int32 → Bd → Prop} {P7 : Int32 → Md → Prop} {t : Tp} {m0 : Md} {b : Bd} {v : Md} {N R W D : Int} {q n0 : Int32} (hD : 0 < D) (hxx : RX t m0) (hq : 0 ≤ q.toInt) (hn : 0 ≤ n0.toInt) (hqn : q.toInt + n0.toInt ≤ (m0.1 5).toInt) (hs : SG m0 q n0) (hB : RB b (v.2.2.1 0)) (hM : mb N R W D v) (hv : v.2.2.2 2 = m0.2.2.2 2) (h6 : wp_X0_scrollUp P6 b t q n0) (h7 : wp_X7_scrolls P7 v q n0) : ∃ r b' v', P6 r b' ∧ P7 r v' ∧ RB b' (v'.2.2.1 0) ∧ mb N R W D v' ∧ v'.1 = v.1 ∧ (∀ k, ¬ k = 0 → v'.2.2.1 k = v.2.2.1 k) ∧ (∀ k, ¬ k = 1 → v'.2.2.2 k = v.2.2.2 k) := by
  have e0 : (0 : Int32).toInt = 0 := rfl
  have e1 : (1 : Int32).toInt = 1 := rfl
  have hR := hM.2.2.2.2.1.2.2.2.2.2.1
  unfold wp_X0_scrollUp at h6
  unfold wp_X7_scrolls at h7
  obtain ⟨n6, h6⟩ := h6
  obtain ⟨n7, h7⟩ := h7
  obtain ⟨u, z', h7, u1, u2, u3, u4, u5⟩ := e7_scr5_L hM.2.2.2.2.1 hD n7 v 0 rfl (by decide) (fun c g _ => by omega) h7
  obtain ⟨n8, h7⟩ := h7
  have Mu : mb N R W D u := FN1_mb hM u1 u3 (u4 0 (by decide))
  obtain ⟨b1, v1, r1, z6, z7, h6, h7, B1, M1, F1⟩ := sm_scr_L (N := N) hD n6 n8 b u 0 0 (by decide) (by decide) (by rw [u3]; exact hB) Mu (fun c _ g => by rw [u5 c g, u3]) h6 h7
  have h7 := rows_e h7
  rw [← B1.1.1] at h7
  have rc := RB_cells M1.2.2.2.2.1 B1
  have s1 := nw (tq_subr e1 (b1.1 0)) (by omega)
  have k2 : v1.2.2.2 2 = m0.2.2.2 2 := by rw [F1.2.2.2, u4 2 (by decide), hv]
  obtain ⟨r, b', v', g1, g2, g3, g4, g5⟩ := sm_wantSigns (m0 := m0) hD hxx (by omega) hq hn hqn hs B1 M1 k2 h6 h7
  refine ⟨_, b', v', g1, g2, g3, g4, ?_, fun k hk => ?_, fun k hk => ?_⟩
  · rw [g5.1, F1.1, u1]
  · rw [g5.2.2.1 k hk, F1.2.2.1 k hk, u3]
  · rw [g5.2.2.2, F1.2.2.2, u4 k hk]
theorem sm_scroll {P6 : Int32 → Tp → Bd → Pa → Prop} {P7 : Int32 → Md → Prop} {s1 : Tp} {s6 : Pa} {s2 : Bd} {m : Md} {N R W D : Int} (hx : RX s1 m) (hp : pa s6) (hP : RP s6 m) (hB : RB s2 (m.2.2.1 0)) (hM : mb N R W D m) (hs : R ≤ 0 ∨ 0 < D) (h6 : wp_X6_scroll P6 s1 s2 s6) (h7 : wp_X7_scroll P7 m) : ∃ r t b p m', P6 r t b p ∧ P7 r m' ∧ AR m m' b p := by
  have e0 : (0 : Int32).toInt = 0 := rfl
  have e1 : (1 : Int32).toInt = 1 := rfl
  have hf := hM.2.2.2.2.1
  have hR := hf.2.2.2.2.2.1
  have rc := RB_cells hf hB
  have sz : s1.1 0 = m.1 5 := hx.1
  have bx := hx.2.2
  have M5 : mb 0 R W D ((va_up m.1 5 0), m.2.1, m.2.2.1, m.2.2.2) := by
    obtain ⟨a0, a1, a2, a3, a4, a5, a6, a7⟩ := id hM
    exact ⟨rfl, a1, ⟨by omega, by omega⟩, a3, a4, a5, a6, a7⟩
  have fl : ∀ r t, P6 r t s2 s6 → P7 r ((va_up m.1 5 0), m.2.1, m.2.2.1, m.2.2.2) → ∃ r t b p m', P6 r t b p ∧ P7 r m' ∧ AR m m' b p := fun r t a b => ⟨r, t, s2, s6, _, a, b, hB, RP_k hP rfl rfl, rfl, rfl⟩
  have sr := nw (tq_subr e1 (s2.1 0)) (by omega)
  unfold wp_X6_scroll wp_X6_whyNotRow at h6
  unfold wp_X7_scroll at h7
  rw [sz] at h6
  rcases e0_hasRow h6 with ⟨h6, g1, g2⟩ | ⟨h6, g⟩
  · rcases e7_isBoard M5.2.2.2.2.1 h7 with ⟨h7, hD⟩ | ⟨_, g⟩
    · have h6 := h6.1 (by decide)
      have h7 := h7.1 (by decide)
      rcases e6_isRowText hx (q := 0) (by decide) (by rw [e0]; omega) h6 with ⟨h6, j1, j2⟩ | ⟨h6, j⟩
      · rcases e7_isRowText (m := m) M5.2.2.2.2.1 hx rfl (by omega) h7 with ⟨h7, _⟩ | ⟨_, j⟩
        · have h6 := (h6.2 (by decide)).2 rfl
          have h7 := h7.1 (by decide)
          obtain ⟨p, u, h6, h7, q1, q2, q3, q4, q5, q6⟩ := sm_push hp (RP_k (u := ((va_up m.1 5 0), m.2.1, m.2.2.1, m.2.2.2)) hP rfl rfl) hB M5 hs h6 h7
          have u0 : u.2.2.1 0 = m.2.2.1 0 := q6 0 (by decide)
          obtain ⟨r, b', v', h6, h7, B', M', F1, F2, F3⟩ := sm_scrolls (m0 := m) hD hx (by decide) (by omega) (by rw [e0]; omega) j2 (by rw [u0]; exact hB) q2 (by rw [q5]) h6 h7
          exact ⟨r, _, b', p, v', h6, h7, B', RP_k q1 (by rw [F1]) (F2 1 (by decide)), by rw [F3 0 (by decide), q5], (F2 2 (by decide)).trans (q6 2 (by decide))⟩
        · exact (j ⟨by omega, j2⟩).elim
      · rcases e7_isRowText (m := m) M5.2.2.2.2.1 hx rfl (by omega) h7 with ⟨_, k1, k2⟩ | ⟨h7, _⟩
        · exact (j ⟨by omega, k2⟩).elim
        · exact fl _ _ ((h6.1 rfl).1 (by decide)) (h7.2 rfl)
    · omega
  · rcases e7_isBoard M5.2.2.2.2.1 h7 with ⟨_, hD⟩ | ⟨h7, _⟩
    · omega
    · exact fl _ _ ((h6.2 rfl).1 (by decide)) (h7.2 rfl)
