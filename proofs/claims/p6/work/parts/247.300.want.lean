/-! A row wants signs: wantFlap, wantSigns, with the log; both go cell by cell. -/
theorem e0_wantFlap {P : Int32 → Bd → Prop} {s : Bd} {x y : Int32} (h : wp_X0_wantFlap P s x y) : (y = -1 ∧ P 1 s) ∨ (¬ y = -1 ∧ ∃ u, P 0 u ∧ u.1 = s.1 ∧ u.2.1 = va_up s.2.1 6 (upd (s.2.1 6) (Int32.toNatClampNeg x) y) ∧ u.2.2.1 = s.2.2.1) := by
  unfold wp_X0_wantFlap at h
  by_cases c : y = -1
  · exact Or.inl ⟨c, h.2 c⟩
  · refine Or.inr ⟨c, ?_⟩
    have h := (h.1 c).2.2.2
    obtain ⟨r5, h, _⟩ := xf_dt (dt_X0_entryStart _ _) _ h
    obtain ⟨r7, h, _⟩ := xf_dt (dt_X0_flapsOf _ _) _ h
    by_cases c1 : y = s.2.1 5 (Int32.toNatClampNeg x)
    · exact ⟨_, h.1 c1, rfl, rfl, rfl⟩
    · have h := h.2 c1
      by_cases c2 : ((r5 + ((s.2.1 5) (Int32.toNatClampNeg x)) * r7) + y) < 0
      · exact ⟨_, h.1 c2, rfl, rfl, rfl⟩
      · have h := h.2 c2
        by_cases c3 : (Int32.ofNat s.2.2.2.1) ≤ ((r5 + ((s.2.1 5) (Int32.toNatClampNeg x)) * r7) + y)
        · exact ⟨_, h.1 c3, rfl, rfl, rfl⟩
        · exact ⟨_, (h.2 c3).2.2, rfl, rfl, rfl⟩
theorem e7_wantsFlap {P : Md → Prop} {s : Md} {x y lg : Int32} {R W D : Int} (hf : rw_ok R W D (s.2.2.1 0)) (hD : 0 < D) (h0 : 0 ≤ x.toInt) (h1 : x.toInt < R * W) (hy : 0 ≤ y.toInt ∧ y.toInt < 40) (h : wp_X7_wantsFlap P s x y lg) : ∃ u, P u ∧ FN s u ∧ (∀ i : Nat, i < 496 → u.2.2.1 0 i = vp_updL (s.2.2.1 0) (176 + 8 * x.toInt.toNat + 3) (Int32.toInt64 y) i) := by
  have hR := hf.2.2.2.2.2.1
  obtain ⟨q0, q1, q2, q3, q4, q5⟩ := cl_f (c := x.toInt.toNat) hf hD (by omega)
  unfold wp_X7_wantsFlap at h
  obtain ⟨u, h, f1, g1⟩ := e7_sets (i := 3) h0 (by omega) rfl (by decide) h
  have fin : P u → ∃ u, P u ∧ FN s u ∧ (∀ i : Nat, i < 496 → u.2.2.1 0 i = vp_updL (s.2.2.1 0) (176 + 8 * x.toInt.toNat + 3) (Int32.toInt64 y) i) := fun p => ⟨u, p, f1, fun i _ => by rw [g1]⟩
  by_cases c : lg = 0
  · exact fin (h.1 c)
  · have h := e7_of (i := 2) h0 (by omega) rfl (by decide) (h.2 c)
    by_cases c2 : y = Int64.toInt32 (u.2.2.1 0 (176 + 8 * x.toInt.toNat + 2))
    · exact fin (h.1 c2)
    · have h := e7_of (i := 0) h0 (by omega) rfl (by decide) (h.2 c2)
      have h := e7_of (i := 2) h0 (by omega) rfl (by decide) h
      have h := h.2.2
      rw [g1, uL_n (by omega), uL_n (by omega)] at h
      refine ⟨_, h, FN_tr f1 (FN_up u _), fun i hi => ?_⟩
      have e496 : (496 : Int32).toInt = 496 := rfl
      have e40 : (40 : Int32).toInt = 40 := rfl
      have a0 : (Int64.toInt32 (s.2.2.1 0 (176 + 8 * x.toInt.toNat + 0))).toInt = c_f (s.2.2.1 0) x.toInt.toNat 0 := by
        rw [t32 (by unfold c_f at q0; omega)]
        rfl
      have a2 : (Int64.toInt32 (s.2.2.1 0 (176 + 8 * x.toInt.toNat + 2))).toInt = c_f (s.2.2.1 0) x.toInt.toNat 2 := by
        have k1 := q1.2
        have k3 := q3
        have z : (s.2.2.1 0 (176 + 8 * x.toInt.toNat + 2)).toInt = c_f (s.2.2.1 0) x.toInt.toNat 2 := rfl
        rw [t32 (by omega)]
        exact z
      generalize Int64.toInt32 (s.2.2.1 0 (176 + 8 * x.toInt.toNat + 0)) = A at *
      generalize Int64.toInt32 (s.2.2.1 0 (176 + 8 * x.toInt.toNat + 2)) = B at *
      have m1 := nw (tq_mulc e40 A) (by omega)
      have m2 := nw (tq_add (40 * A) B) (by omega)
      have m3 := nw (tq_mulc e40 (40 * A + B)) (by omega)
      have m4 := nw (tq_addc e496 (40 * (40 * A + B))) (by omega)
      have m5 := nw (tq_add (496 + 40 * (40 * A + B)) y) (by omega)
      show vp_updL (vp_updL (s.2.2.1 0) _ _) _ _ i = _
      rw [uL_n (by rw [tn_i]; omega)]
theorem sm_wantFlapX {P6 : Int32 → Bd → Prop} {P7 : Md → Prop} {b : Bd} {v : Md} {x y lg : Int32} {N R W D : Int} (hM : mb N R W D v) (hD : 0 < D) (hB : RB b (v.2.2.1 0)) (h0 : 0 ≤ x.toInt) (h1 : x.toInt < R * W) (hy : ¬ y = -1 ∧ 0 ≤ y.toInt ∧ y.toInt < flF (v.2.2.1 0) x.toInt.toNat) (h6 : wp_X0_wantFlap P6 b x y) (h7 : wp_X7_wantsFlap P7 v x y lg) : ∃ b' v', P6 0 b' ∧ P7 v' ∧ RB b' (v'.2.2.1 0) ∧ mb N R W D v' ∧ FN v v' ∧ (∀ i : Nat, i < 496 → ¬ i = 176 + 8 * x.toInt.toNat + 3 → v'.2.2.1 0 i = v.2.2.1 0 i) := by
  have hf := hM.2.2.2.2.1
  have hR := hf.2.2.2.2.2.1
  obtain ⟨q0, q1, q2, q3, q4, q5⟩ := cl_f (c := x.toInt.toNat) hf hD (by omega)
  have hy2 : y.toInt < d_f (v.2.2.1 0) (c_f (v.2.2.1 0) x.toInt.toNat 0).toNat := hy.2.2
  have h7 := dt_conj (dt_X7_wantsFlap v x y lg) h7 (wq_X7_wantsFlap (post := fun u => mb N R W D u) hM ⟨h0, by omega⟩ hD ⟨hy.2.1, by omega, hy2⟩ (fun u a _ => a))
  obtain ⟨v', ⟨h7, m7⟩, f1, g1⟩ := e7_wantsFlap hf hD h0 h1 (by omega) h7
  rcases e0_wantFlap h6 with ⟨c, _⟩ | ⟨_, b', h6, e1, e2, e3⟩
  · exact (hy.1 c).elim
  · rw [tn_i] at e2
    refine ⟨b', v', h6, h7, ?_, m7, f1, fun i hi ne => (g1 i hi).trans (uL_n ne)⟩
    have hfv := m7.2.2.2.2.1
    have at_ := RB_at (c := x.toInt.toNat) hf hB (by omega)
    have B2 : RB b' (vp_updL (v.2.2.1 0) (176 + 8 * x.toInt.toNat + 3) (Int32.toInt64 y)) := by
      refine RB_c (c := x.toInt.toNat) hB e1 ?_ (fun j hj i hi => ?_) (fun i hi => by rw [e3]) (fun i hi => uL_n (by omega)) ⟨fun j hj => ?_, ?_⟩
      · rw [e2]
        exact ⟨rfl, rfl, rfl⟩
      · rw [e2]
        by_cases q : j = 3
        · subst q
          exact up_n hi
        · rw [va_n (by omega)]
      · rw [e2]
        by_cases q : j = 3
        · subst q
          rw [uL_e, t32_64]
          exact up_e
        · rw [va_n (by omega), uL_n (by omega)]
          exact at_.1 j hj
      · rw [e3, uL_n (by omega)]
        exact ⟨at_.2, RB_w (c := x.toInt.toNat) hf hB (by omega)⟩
    exact RB_cgr hfv g1 B2
theorem sm_wantFlap {P6 : Int32 → Bd → Prop} {P7 : Md → Prop} {b : Bd} {v : Md} {x y lg : Int32} {N R W D : Int} (hM : mb N R W D v) (hD : 0 < D) (hB : RB b (v.2.2.1 0)) (h0 : 0 ≤ x.toInt) (h1 : x.toInt < R * W) (hy : ¬ y = -1 ∧ 0 ≤ y.toInt ∧ y.toInt < flF (v.2.2.1 0) x.toInt.toNat) (h6 : wp_X0_wantFlap P6 b x y) (h7 : wp_X7_wantsFlap P7 v x y lg) : ∃ b' v', P6 0 b' ∧ P7 v' ∧ RB b' (v'.2.2.1 0) ∧ mb N R W D v' ∧ FN v v' := by
  obtain ⟨b', v', a1, a2, a3, a4, a5, _⟩ := sm_wantFlapX hM hD hB h0 h1 hy h6 h7
  exact ⟨b', v', a1, a2, a3, a4, a5⟩
theorem RB_x {s : Bd} {f : Nat → Int64} {R W D : Int} {c : Nat} (hf : rw_ok R W D f) (hB : RB s f) (hc : (c : Int) < R * W) : s.2.1 3 c = Int64.toInt32 (f (176 + 8 * c + 0)) ∧ s.2.1 4 c = Int64.toInt32 (f (176 + 8 * c + 1)) ∧ s.2.1 5 c = Int64.toInt32 (f (176 + 8 * c + 2)) ∧ s.2.1 6 c = Int64.toInt32 (f (176 + 8 * c + 3)) ∧ s.2.1 7 c = Int64.toInt32 (f (176 + 8 * c + 4)) ∧ s.2.1 8 c = Int64.toInt32 (f (176 + 8 * c + 5)) ∧ s.2.1 9 c = Int64.toInt32 (f (176 + 8 * c + 6)) ∧ s.2.2.1 c = f (176 + 8 * c + 7) := by
  have q := RB_at hf hB hc
  exact ⟨q.1 0 (by decide), q.1 1 (by decide), q.1 2 (by decide), q.1 3 (by decide), q.1 4 (by decide), q.1 5 (by decide), q.1 6 (by decide), q.2⟩
theorem nrow {R W : Int} {x : Int} (h0 : 0 ≤ x) (h1 : x < R) (hW : 0 ≤ W) : 0 ≤ x * W ∧ x * W + W ≤ R * W := by
  have a : 0 ≤ x * W := Int.mul_nonneg h0 hW
  have b : (x + 1) * W ≤ R * W := Int.mul_le_mul_of_nonneg_right (by omega) hW
  rw [Int.add_mul, Int.one_mul] at b
  exact ⟨a, b⟩
theorem sm_wants_L {t : Tp} {m0 : Md} {N R W D : Int} {x q n0 lg : Int32} {K : Nat} {p6 : Int32 → Bd → Prop} {e6 : Bd → Int32 → Int32 → Int32 → Int32 → Int32 → Prop} {p7 : Int32 → Md → Prop} {e7 : Md → Int32 → Int32 → Int32 → Int32 → Int32 → Int32 → Prop} (hD : 0 < D) (hxx : RX t m0) (hK : x.toInt * W = (K : Int)) (hK2 : (K : Int) + W ≤ R * W) (hq : 0 ≤ q.toInt) (hn : 0 ≤ n0.toInt) (hqn : q.toInt + n0.toInt ≤ (m0.1 5).toInt) (hs : SG m0 q n0) : ∀ (n6 n7 : Nat) (b : Bd) (v : Md) (z5 z : Int32), 0 ≤ z.toInt → z.toInt ≤ W → RB b (v.2.2.1 0) → mb N R W D v → v.2.2.2 2 = m0.2.2.2 2 → wp_X0_wantSigns_L6 t p6 e6 n6 b x q n0 z5 z → wp_X7_wantsSigns_L6 p7 e7 n7 v x q n0 lg z5 z → ∃ b' v' r z6 z7, e6 b' x q n0 r z6 ∧ e7 v' x q n0 lg r z7 ∧ RB b' (v'.2.2.1 0) ∧ mb N R W D v' ∧ FN v v' := by
  have bx := hxx.2.2
  have e1 : (1 : Int32).toInt = 1 := rfl
  have e0 : (0 : Int32).toInt = 0 := rfl
  intro n6
  induction n6 with
  | zero =>
    intro n7 b v z5 z _ _ _ _ _ h
    exact (show False from h).elim
  | succ n6 ih =>
    intro n7 b v z5 z h0 h1 hB hM hv h6 h7
    cases n7 with
    | zero => exact (show False from h7).elim
    | succ n7 =>
      have hf := hM.2.2.2.2.1
      have rn := rw_n hf
      have rc := RB_cells hf hB
      unfold wp_X0_wantSigns_L6 at h6
      unfold wp_X7_wantsSigns_L6 at h7
      have h7 := wide_e h7
      rw [← hB.1.2.1] at h7
      by_cases c : b.1 1 ≤ z
      · have h6 := h6.1 c
        have h7 := h7.1 c
        exact ⟨b, v, z5, z, z, h6, h7, hB, hM, FN_rf v⟩
      · have c1 := q_nle c
        have h6 := h6.2 c
        have h7 := wide_e (h7.2 c)
        rw [← hB.1.2.1] at h7
        have m0' := tq_mul x (b.1 1)
        rw [rc.2.1, hK] at m0'
        have m1 := nw m0' (by omega)
        have m2 := nw (tq_add (x * b.1 1) z) (by omega)
        have a := nw (tq_addr e1 z) (by omega)
        have cm : b.1 1 * x = x * b.1 1 := Int32.mul_comm _ _
        rw [cm] at h7
        have kz : ((z.toInt.toNat : Nat) : Int) = z.toInt := by omega
        have en : (x * b.1 1 + z).toInt.toNat = K + z.toInt.toNat := by omega
        have at_ := RB_x (c := K + z.toInt.toNat) hf hB (by omega)
        obtain ⟨r6, h6, n6'⟩ := flap6 (c := K + z.toInt.toNat) hf hD (RB_d hB) hxx (by omega) (by omega) at_.1 at_.2.2.1 at_.2.2.2.2.2.2.2 h0 (by omega) (by omega) h6
        have put : ∀ {r : Int32}, (¬ r = -1 ∧ 0 ≤ r.toInt ∧ r.toInt < flF (v.2.2.1 0) (x * b.1 1 + z).toInt.toNat) → wp_X0_wantFlap (fun r_4 u_5 => wp_X0_wantSigns_L6 t p6 e6 n6 u_5 x q n0 (z5 + r_4) (z + 1)) b (x * b.1 1 + z) r → wp_X7_wantsFlap (fun u_8 => wp_X7_wantsSigns_L6 p7 e7 n7 u_8 x q n0 lg z5 (z + 1)) v (x * b.1 1 + z) r lg → ∃ b' v' r z6 z7, e6 b' x q n0 r z6 ∧ e7 v' x q n0 lg r z7 ∧ RB b' (v'.2.2.1 0) ∧ mb N R W D v' ∧ FN v v' := by
          intro r hr h6 h7
          obtain ⟨b2, v2, h6, h7, B2, M2, F2⟩ := sm_wantFlap hM hD hB (by omega) (by omega) hr h6 h7
          rw [Int32.add_zero] at h6
          obtain ⟨b', v', r', z6, z7, g1, g2, g3, g4, g5⟩ := ih n7 b2 v2 z5 (z + 1) (by omega) (by omega) B2 M2 (by rw [F2.2.2.2]; exact hv) h6 h7
          exact ⟨b', v', r', z6, z7, g1, g2, g3, g4, FN_tr F2 g5⟩
        obtain ⟨q0, q1, q2, q3, q4, q5⟩ := cl_f (c := K + z.toInt.toNat) hf hD (by omega)
        have fle : flF (v.2.2.1 0) (x * b.1 1 + z).toInt.toNat = d_f (v.2.2.1 0) (c_f (v.2.2.1 0) (K + z.toInt.toNat) 0).toNat := by
          rw [en]
          rfl
        by_cases g : n0 ≤ z
        · have g1 := q_le g
          rcases n6' with ⟨n6', _⟩ | ⟨_, rfl⟩
          · omega
          · exact put ⟨by decide, by rw [e0]; omega, by rw [fle, e0]; omega⟩ h6 (h7.1 g)
        · have g1 := q_nle g
          have h7 := (h7.2 g).2
          rcases n6' with ⟨_, n6'⟩ | ⟨n6', _⟩
          · obtain ⟨r, p, nv⟩ := near7 hf hD (RS_rf _ _) (by omega) (by omega) h7
            rw [en] at nv
            have sg : v.2.2.2 2 (Int32.toNatClampNeg (q + z)) = tb7 m0 (q + nI z.toInt.toNat) := by
              rw [tb_sg hxx hs hq hqn (k := z.toInt.toNat) (by omega), nI_tn h0, hv]
            rw [sg] at nv
            have er : r6 = r := NV_u hf hD (by omega) n6' nv
            subst er
            by_cases y : r6 = -1
            · have p := p.2 y
              rcases e0_wantFlap h6 with ⟨_, h6⟩ | ⟨y2, _⟩
              · obtain ⟨b', v', r', z6, z7, g1, g2, g3, g4, g5⟩ := ih n7 b v (z5 + 1) (z + 1) (by omega) (by omega) hB hM hv h6 p
                exact ⟨b', v', r', z6, z7, g1, g2, g3, g4, g5⟩
              · exact (y2 y).elim
            · rcases NV_b nv with y2 | y2
              · exact (y y2).elim
              · exact put ⟨y, y2.2.1, by rw [fle]; exact y2.2.2⟩ h6 (p.1 y)
          · omega
theorem sm_wantSigns {P6 : Int32 → Bd → Prop} {P7 : Int32 → Md → Prop} {t : Tp} {m0 : Md} {b : Bd} {v : Md} {N R W D : Int} {x q n0 lg : Int32} (hD : 0 < D) (hxx : RX t m0) (hx : 0 ≤ x.toInt ∧ x.toInt < R) (hq : 0 ≤ q.toInt) (hn : 0 ≤ n0.toInt) (hqn : q.toInt + n0.toInt ≤ (m0.1 5).toInt) (hs : SG m0 q n0) (hB : RB b (v.2.2.1 0)) (hM : mb N R W D v) (hv : v.2.2.2 2 = m0.2.2.2 2) (h6 : wp_X0_wantSigns P6 b t x q n0) (h7 : wp_X7_wantsSigns P7 v x q n0 lg) : ∃ r b' v', P6 r b' ∧ P7 r v' ∧ RB b' (v'.2.2.1 0) ∧ mb N R W D v' ∧ FN v v' := by
  have e0 : (0 : Int32).toInt = 0 := rfl
  have hR := hM.2.2.2.2.1.2.2.2.2.2.1
  have k := nrow hx.1 hx.2 (W := W) (by omega)
  unfold wp_X0_wantSigns at h6
  unfold wp_X7_wantsSigns at h7
  obtain ⟨n6, h6⟩ := h6
  obtain ⟨n7, h7⟩ := h7
  obtain ⟨b', v', r, _, _, g1, g2, g3, g4, g5⟩ := sm_wants_L (K := (x.toInt * W).toNat) hD hxx (by omega) (by omega) hq hn hqn hs n6 n7 b v 0 0 (by omega) (by omega) hB hM hv h6 h7
  exact ⟨r, b', v', g1, g2, g3, g4, g5⟩
