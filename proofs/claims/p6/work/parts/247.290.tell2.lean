/-! tell, feed, end: what both answer, and what both have on the tape behind them. -/
theorem e7_zero_L {p7 : Int32 → Md → Prop} {e7 : Md → Int32 → Prop} : ∀ (n : Nat) (s : Md) (z : Int32), 0 ≤ z.toInt → z.toInt ≤ 6896 → wp_X7_tell_L6 p7 e7 n s z → ∃ u z', e7 u z' ∧ FN s u ∧ (∀ i : Nat, i < z.toInt.toNat → u.2.2.1 0 i = s.2.2.1 0 i) ∧ (∀ i : Nat, z.toInt ≤ (i : Int) → i < 6896 → u.2.2.1 0 i = 0) := by
  have e1 : (1 : Int32).toInt = 1 := rfl
  have eK : (6896 : Int32).toInt = 6896 := rfl
  intro n
  induction n with
  | zero =>
    intro s z _ _ h
    exact (show False from h).elim
  | succ n ih =>
    intro s z h0 h1 h
    unfold wp_X7_tell_L6 at h
    by_cases c : 6896 ≤ z
    · have := q_le c
      exact ⟨s, z, h.1 c, FN_rf s, fun _ _ => rfl, fun i g1 g2 => by omega⟩
    · have c1 := q_nle c
      have a := nw (tq_addr e1 z) (by omega)
      have h := (h.2 c).2
      have tz : Int32.toNatClampNeg z = z.toInt.toNat := rfl
      rw [tz] at h
      obtain ⟨u, z', b1, b2, b3, b4⟩ := ih (s.1, s.2.1, (va_up s.2.2.1 0 (vp_updL (s.2.2.1 0) z.toInt.toNat 0)), s.2.2.2) (z + 1) (by omega) (by omega) h
      refine ⟨u, z', b1, FN_tr (FN_up s _) b2, fun i hi => ?_, fun i g1 g2 => ?_⟩
      · rw [b3 i (by omega)]
        show vp_updL (s.2.2.1 0) z.toInt.toNat 0 i = _
        exact uL_n (by omega)
      · by_cases g : (i : Int) = z.toInt
        · have ei : i = z.toInt.toNat := by omega
          rw [b3 i (by omega), ei]
          show vp_updL (s.2.2.1 0) z.toInt.toNat 0 z.toInt.toNat = _
          exact uL_e
        · exact b4 i (by omega) g2
theorem e7_aside {P : Md → Prop} {s : Md} {N R W D : Int} (hM : mb N R W D s) (hs : R ≤ 0 ∨ 0 < D) (h : wp_X7_putsAside P s) : ∃ u, P u ∧ mb N R W D u ∧ u.1 = s.1 ∧ u.2.1 = s.2.1 ∧ u.2.2.2 = s.2.2.2 ∧ u.2.2.1 0 = s.2.2.1 0 ∧ (∀ i, i < 6896 → u.2.2.1 3 i = s.2.2.1 0 i) := by
  obtain ⟨u, a, b⟩ := dt_both (dt_X7_putsAside s) (P := P) (Q := fun u => mb N R W D u ∧ u.1 = s.1 ∧ u.2.1 = s.2.1 ∧ u.2.2.2 = s.2.2.2 ∧ u.2.2.1 0 = s.2.2.1 0 ∧ (∀ i, i < 6896 → u.2.2.1 3 i = s.2.2.1 0 i)) h (wq_X7_putsAside hM hs (fun u g1 g2 g3 => ⟨g1, funext (fun k => g2 k (by simp)), g3.1, g3.2.1, g3.2.2.1, g3.2.2.2⟩))
  exact ⟨u, a, b⟩
theorem e0_emptyLog {P : Bd → Prop} {s : Bd} (h : wp_X0_emptyLog P s) : ∃ u, P u ∧ u.1 = s.1 ∧ u.2.1 = s.2.1 ∧ u.2.2.1 = s.2.2.1 := by
  unfold wp_X0_emptyLog at h
  obtain ⟨r, h, _⟩ := xf_dt (dt_X0_entryCount s) _ h
  by_cases c : r ≤ Int32.ofNat s.2.2.2.1
  · exact ⟨_, (h.1 c).2, rfl, rfl, rfl⟩
  · exact ⟨_, (h.2 c).2.2, rfl, rfl, rfl⟩
/-- tell answers alike -/
theorem sm_tell {P6 : Int32 → Tp → Bd → Bd → Pa → Prop} {P7 : Int32 → Md → Prop} {s1 : Tp} {s2 s3 : Bd} {s6 : Pa} {m : Md} {N R W D : Int} (hx : RX s1 m) (hM : mb N R W D m) (hs : R ≤ 0 ∨ 0 < D) (h6 : wp_X6_tell P6 s1 s2 s3 s6) (h7 : wp_X7_tell P7 m) : ∃ r t' b2 b3 pa v, P6 r t' b2 b3 pa ∧ P7 r v := by
  unfold wp_X6_tell wp_X1_readInto at h6
  unfold wp_X7_tell at h7
  obtain ⟨b, h6, hZ⟩ := e0_clear h6
  unfold wp_X5_startReading at h6
  obtain ⟨w, h7, mw, w1, w2, w3, w4, w5⟩ := e7_aside hM hs h7
  obtain ⟨n, h7⟩ := h7
  have z0 : (0 : Int32).toInt = 0 := rfl
  obtain ⟨v, z', h7, f1, _, f3⟩ := e7_zero_L n w 0 (by decide) (by decide) h7
  have hv0 : ∀ i : Nat, i < 6896 → v.2.2.1 0 i = 0 := fun i hi => f3 i (by rw [z0]; omega) hi
  have mv : mb N 0 0 0 v := mb_row mw (by rw [f1.1]) (by rw [f1.1]) f1.2.2.1 (by rw [f1.2.2.2]) (rw_zero hv0)
  have v1 : v.1 = m.1 := f1.1.trans w1
  have vt : v.2.2.2 = m.2.2.2 := f1.2.2.2.trans w3
  have rt : RT ((va_up (va_up (va_up (va_up (va_up s1.1 1 0) 2 0) 3 0) 4 0) 5 0), s1.2) ((va_up v.1 6 0), v.2.1, v.2.2.1, v.2.2.2) := by
    refine ⟨?_, rfl, (show (0 : Int) ≤ (0 : Int32).toInt by decide), ?_, rfl⟩
    · show s1.1 0 = v.1 5 ∧ s1.2 = (fun k => v.2.2.2 2 k &&& 255) ∧ 0 ≤ (v.1 5).toInt ∧ (v.1 5).toInt ≤ 400 ∧ _
      show s1.1 0 = v.1 5 ∧ s1.2 = (fun k => v.2.2.2 2 k &&& 255) ∧ 0 ≤ (v.1 5).toInt ∧ (v.1 5).toInt ≤ 400 ∧ (∀ k, -128 ≤ (v.2.2.2 2 k).toInt ∧ (v.2.2.2 2 k).toInt ≤ 127)
      rw [v1, vt]
      exact hx
    · show (0 : Int32).toInt ≤ (v.1 5).toInt
      rw [v1, z0]
      exact hx.2.2.1
  obtain ⟨b', t', r, y, g1, g2, g3⟩ := sm_board (P6 := fun u_2a u_2b => wp_X5_isSound (fun r_3 => ((¬ r_3 = 0 → wp_X0_copyAllButLog (fun u_7 => wp_X0_emptyLog (fun b_10 => P6 (b_10.1 3) ((va_up u_2b.1 0 0), u_2b.2) b_10 u_2a ((va_up s6.1 0 0), s6.2)) u_7) s2 u_2a) ∧ (r_3 = 0 → P6 ((-2) - (u_2b.1 5)) ((va_up u_2b.1 0 0), u_2b.2) s2 u_2a s6))) ((va_up u_2b.1 0 0), u_2b.2)) hZ mv hv0 rt h6 h7
  rcases g3 with ⟨rfl, g4, g5, g6⟩ | ⟨rfl, g4⟩
  · have k6 := ((e5_isSound g1).1 g4).1 (by decide)
    unfold wp_X0_copyAllButLog at k6
    have k6 := cells6_e k6
    have k6 := k6.2.2.2.2.2.2.2.2.2.2.2.2.2.2.2.2.2.2.2.2.2.2.2.2
    obtain ⟨b2, k6, e1, _⟩ := e0_emptyLog k6
    have k7 := drums_e (g2.1 (by decide))
    have er : b2.1 3 = Int64.toInt32 (y.2.2.1 0 3) := by
      rw [e1]
      show b'.1 3 = _
      exact g5.1.2.2.2
    rw [er] at k6
    exact ⟨_, _, _, _, _, _, k6, k7⟩
  · have k6 := ((e5_isSound g1).2 g4.2).2 rfl
    have k7 := g2.2 rfl
    obtain ⟨v2, k7, e7⟩ : ∃ v2 : Md, P7 ((-2) - (v2.1 7)) v2 ∧ v2.1 7 = y.1 7 := by
      unfold wp_X7_takesBack at k7
      obtain ⟨n, k7⟩ := k7
      have L : ∀ (n : Nat) (s : Md) (z : Int32), wp_X7_takesBack_L2 (fun u_11 => P7 ((-2) - (u_11.1 7)) u_11) (fun t0 z1 => (fun u_11 => P7 ((-2) - (u_11.1 7)) u_11) t0) n s z → ∃ v2 : Md, P7 ((-2) - (v2.1 7)) v2 ∧ v2.1 7 = s.1 7 := by
        intro n
        induction n with
        | zero =>
          intro s z h
          exact (show False from h).elim
        | succ n ih =>
          intro s z h
          unfold wp_X7_takesBack_L2 at h
          by_cases c : 6896 ≤ z
          · exact ⟨s, h.1 c, rfl⟩
          · obtain ⟨v2, q1, q2⟩ := ih _ _ (h.2 c).2.2
            exact ⟨v2, q1, q2⟩
      obtain ⟨v2, q1, q2⟩ := L n _ _ k7
      exact ⟨v2, q1, q2⟩
    have ee : (-2 : Int32) - (v2.1 7) = (-2) - (t'.1 5) := by
      rw [e7]
      show (-2 : Int32) - (y.1 7) = _
      rw [g4.1]
    rw [ee] at k7
    exact ⟨_, _, _, _, _, _, k6, k7⟩
/-! feed -/
theorem by_n (y : Int32) : (vp_nar .byte (Int8.toInt32 (Int32.toInt8 y))) &&& 255 = y &&& 255 ∧ -128 ≤ (vp_nar .byte (Int8.toInt32 (Int32.toInt8 y))).toInt ∧ (vp_nar .byte (Int8.toInt32 (Int32.toInt8 y))).toInt ≤ 127 := by
  have e : vp_nar .byte (Int8.toInt32 (Int32.toInt8 y)) = Int8.toInt32 (Int32.toInt8 (Int8.toInt32 (Int32.toInt8 y))) := rfl
  rw [e, Int8.toInt8_toInt32]
  refine ⟨?_, ?_, ?_⟩
  · apply Int32.toBitVec_inj.mp
    rw [Int32.toBitVec_and, Int32.toBitVec_and]
    show (y.toBitVec.signExtend 8).signExtend 32 &&& 255#32 = y.toBitVec &&& 255#32
    apply BitVec.eq_of_getLsbD_eq
    intro i hi
    rw [BitVec.getLsbD_and, BitVec.getLsbD_and]
    by_cases c : i < 8
    · rw [BitVec.getLsbD_signExtend, BitVec.getLsbD_signExtend]
      simp [hi, c]
    · have : (255#32).getLsbD i = false := (show ∀ i, i < 32 → ¬ i < 8 → (255#32).getLsbD i = false by decide) i hi c
      rw [this, Bool.and_false, Bool.and_false]
  · rw [Int8.toInt_toInt32]
    have := Int8.le_toInt (Int32.toInt8 y)
    omega
  · rw [Int8.toInt_toInt32]
    have := Int8.toInt_lt (Int32.toInt8 y)
    omega
theorem sm_lays_L {p6 : Tp → Prop} {p7 : Md → Prop} {e6 : Tp → Int32 → Int32 → Prop} {e7 : Md → Int32 → Int32 → Prop} {x : Int32} : ∀ (n6 n7 : Nat) (t : Tp) (s : Md) (z : Int32), RX t s → -8 ≤ z.toInt → z.toInt ≤ 24 → 8 * (s.1 5).toInt + z.toInt ≤ 3192 → wp_X5_addNumber_L3 p6 e6 n6 t x z → wp_X7_lays_L3 p7 e7 n7 s x z → ∃ u v z6 z7, e6 u x z6 ∧ e7 v x z7 ∧ RX u v ∧ 8 * (v.1 5).toInt ≤ 8 * (s.1 5).toInt + z.toInt + 8 := by
  have e1 : (1 : Int32).toInt = 1 := rfl
  have e0 : (0 : Int32).toInt = 0 := rfl
  have m8 : (-8 : Int32).toInt = -8 := rfl
  have e400 : (400 : Int32).toInt = 400 := rfl
  intro n6
  induction n6 with
  | zero =>
    intro n7 t s z _ _ _ _ h
    exact (show False from h).elim
  | succ n6 ih =>
    intro n7 t s z hx h0 h1 h2 h6 h7
    cases n7 with
    | zero => exact (show False from h7).elim
    | succ n7 =>
      unfold wp_X5_addNumber_L3 at h6
      unfold wp_X7_lays_L3 at h7
      obtain ⟨q1, q2, q3, q4, q5⟩ := hx
      by_cases c : z < 0
      · have := q_lt c
        exact ⟨t, s, z, z, h6.1 c, h7.1 c, ⟨q1, q2, q3, q4, q5⟩, by omega⟩
      · have c1 := q_nlt c
        have a := nw (tq_addr m8 z) (by omega)
        have b := nw (tq_addr e1 (s.1 5)) (by omega)
        have k6 := ((h6.2 c).2 (fun g => by
          have := q_le g
          rw [q1] at this
          omega)).2
        have k7 := (h7.2 c).2
        have nb := by_n (x >>> (z &&& 31))
        have rx : RX ((va_up t.1 0 ((t.1 0) + 1)), (upd t.2 (Int32.toNatClampNeg (t.1 0)) ((x >>> (z &&& 31)) &&& 255))) ((va_up s.1 5 ((s.1 5) + 1)), s.2.1, s.2.2.1, (va_up s.2.2.2 2 (upd (s.2.2.2 2) (Int32.toNatClampNeg (s.1 5)) (vp_nar .byte (Int8.toInt32 (Int32.toInt8 (x >>> (z &&& 31)))))))) := by
          refine ⟨?_, funext (fun k => ?_), ?_, ?_, fun k => ?_⟩
          · show t.1 0 + 1 = s.1 5 + 1
            rw [q1]
          · show upd t.2 (Int32.toNatClampNeg (t.1 0)) _ k = (upd (s.2.2.2 2) (Int32.toNatClampNeg (s.1 5)) _ k) &&& 255
            rw [q1]
            unfold upd
            by_cases g : k = Int32.toNatClampNeg (s.1 5)
            · rw [if_pos g, if_pos g]
              exact nb.1.symm
            · rw [if_neg g, if_neg g, q2]
          · show 0 ≤ (s.1 5 + 1).toInt
            omega
          · show (s.1 5 + 1).toInt ≤ 400
            omega
          · show -128 ≤ (upd (s.2.2.2 2) (Int32.toNatClampNeg (s.1 5)) _ k).toInt ∧ (upd (s.2.2.2 2) (Int32.toNatClampNeg (s.1 5)) _ k).toInt ≤ 127
            unfold upd
            by_cases g : k = Int32.toNatClampNeg (s.1 5)
            · rw [if_pos g]
              exact nb.2
            · rw [if_neg g]
              exact q5 k
        obtain ⟨u, v, z6, z7, g1, g2, g3, g4⟩ := ih n7 _ _ (z + (-8)) rx (by omega) (by omega) (show 8 * (s.1 5 + 1).toInt + (z + (-8)).toInt ≤ 3192 by omega) k6 k7
        have g4 : 8 * (v.1 5).toInt ≤ 8 * (s.1 5 + 1).toInt + (z + (-8)).toInt + 8 := g4
        exact ⟨u, v, z6, z7, g1, g2, g3, by omega⟩
theorem sm_lays {P6 : Tp → Prop} {P7 : Md → Prop} {t : Tp} {s : Md} {x : Int32} (hx : RX t s) (h : (s.1 5).toInt ≤ 396) (h6 : wp_X5_addNumber P6 t x) (h7 : wp_X7_lays P7 s x) : ∃ u v, P6 u ∧ P7 v ∧ RX u v ∧ (v.1 5).toInt ≤ (s.1 5).toInt + 4 := by
  unfold wp_X5_addNumber at h6
  unfold wp_X7_lays at h7
  obtain ⟨n6, h6⟩ := h6
  obtain ⟨n7, h7⟩ := h7
  have e24 : (24 : Int32).toInt = 24 := rfl
  obtain ⟨u, v, z6, z7, g1, g2, g3, g4⟩ := sm_lays_L n6 n7 t s 24 hx (by decide) (by decide) (by rw [e24]; omega) h6 h7
  rw [e24] at g4
  exact ⟨u, v, g1, g2, g3, by omega⟩
theorem sm_feed {P6 : Int32 → Tp → Prop} {P7 : Int32 → Md → Prop} {t : Tp} {s : Md} {x1 x2 x3 x4 x5 : Int32} (hx : RX t s) (h6 : wp_X6_feed P6 t x1 x2 x3 x4 x5) (h7 : wp_X7_feed P7 s x1 x2 x3 x4 x5) : ∃ r u v, P6 r u ∧ P7 r v ∧ RX u v := by
  have e20 : (20 : Int32).toInt = 20 := rfl
  have e400 : (400 : Int32).toInt = 400 := rfl
  have e380 : (380 : Int32).toInt = 380 := rfl
  unfold wp_X6_feed at h6
  unfold wp_X7_feed at h7
  have q := hx.2.2
  have a := nw (tq_addr e20 (s.1 5)) (by omega)
  rw [hx.1] at h6
  by_cases c : s.1 5 ≤ 380
  · have c1 := q_le c
    have h6 := h6.1 (Int32.le_iff_toInt_le.mpr (by omega))
    have h7 := h7.1 c
    obtain ⟨t1, v1, h6, h7, y1, l1⟩ := sm_lays hx (by omega) h6 h7
    obtain ⟨t2, v2, h6, h7, y2, l2⟩ := sm_lays y1 (by omega) h6 h7
    obtain ⟨t3, v3, h6, h7, y3, l3⟩ := sm_lays y2 (by omega) h6 h7
    obtain ⟨t4, v4, h6, h7, y4, l4⟩ := sm_lays y3 (by omega) h6 h7
    obtain ⟨t5, v5, h6, h7, y5, l5⟩ := sm_lays y4 (by omega) h6 h7
    rw [y5.1] at h6
    exact ⟨_, t5, v5, h6, h7, y5⟩
  · have c1 := q_nle c
    exact ⟨-1, t, s, h6.2 (fun g => by have := q_le g; omega), h7.2 c, hx⟩
