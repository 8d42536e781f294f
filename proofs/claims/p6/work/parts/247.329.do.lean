/-! A step done on both sides. -/
def XG (u v : Md) : Prop := ie [1, 2] v.1 u.1 ∧ (∀ k, (k = 1 ∨ k = 2 ∨ k = 3) → v.2.2.1 k = u.2.2.1 k) ∧ v.2.2.2 0 = u.2.2.2 0 ∧ v.2.2.2 2 = u.2.2.2 2
theorem FN_xg {u v : Md} (h : FN u v) : XG u v := ⟨by rw [h.1]; exact ie_refl _ _, fun k hk => h.2.2.1 k (by omega), by rw [h.2.2.2], by rw [h.2.2.2]⟩
theorem TG_xg {u v : Md} (h : TG u v) : XG u v := ⟨h.1.2.2, fun k hk => by
  rcases hk with rfl | rfl | rfl
  · exact h.2.1
  · exact h.2.2.1
  · exact h.2.2.2.1, by rw [h.2.2.2.2], by rw [h.2.2.2.2]⟩
theorem XG_tr {u v w : Md} (a : XG u v) (b : XG v w) : XG u w := ⟨ie_tr b.1 (fun _ h => h) a.1, fun k hk => (b.2.1 k hk).trans (a.2.1 k hk), b.2.2.1.trans a.2.2.1, b.2.2.2.trans a.2.2.2⟩
theorem of_has {P : Int32 → Prop} {s : Pg} {x : Int32} (h0 : 0 ≤ x.toInt) (h1 : x.toInt < (s.1 1).toInt) (h : wp_X4_hasStep P s x) : P 1 := by
  have e0 : (0 : Int32).toInt = 0 := rfl
  unfold wp_X4_hasStep at h
  exact (h.2 (fun c => by have := q_lt c; omega)).2 (fun c => by have := q_le c; omega)
theorem of_kind {P : Int32 → Prop} {s : Pg} {x : Int32} (h0 : 0 ≤ x.toInt) (h1 : x.toInt < (s.1 1).toInt) (h : wp_X4_kindOf P s x) : P (s.2 0 x.toInt.toNat) := by
  unfold wp_X4_kindOf at h
  have h := ((of_has h0 h1 h).2 (by decide)).2
  rw [tn_i] at h
  exact h
theorem of_one {P : Int32 → Prop} {s : Pg} {x : Int32} (h0 : 0 ≤ x.toInt) (h1 : x.toInt < (s.1 1).toInt) (h : wp_X4_oneOf P s x) : P (s.2 1 x.toInt.toNat) := by
  unfold wp_X4_oneOf at h
  have h := ((of_has h0 h1 h).2 (by decide)).2
  rw [tn_i] at h
  exact h
theorem of_two {P : Int32 → Prop} {s : Pg} {x : Int32} (h0 : 0 ≤ x.toInt) (h1 : x.toInt < (s.1 1).toInt) (h : wp_X4_twoOf P s x) : P (s.2 2 x.toInt.toNat) := by
  unfold wp_X4_twoOf at h
  have h := ((of_has h0 h1 h).2 (by decide)).2
  rw [tn_i] at h
  exact h
theorem of_quo {P : Int32 → Prop} {s : Pg} {x : Int32} (h0 : 0 ≤ x.toInt) (h1 : x.toInt < (s.1 1).toInt) (h : wp_X4_quotedOf P s x) : P (s.2 3 x.toInt.toNat) := by
  unfold wp_X4_quotedOf at h
  have h := ((of_has h0 h1 h).2 (by decide)).2
  rw [tn_i] at h
  exact h
theorem of_end {P : Int32 → Prop} {s : Pg} {x : Int32} (h0 : 0 ≤ x.toInt) (h1 : x.toInt < (s.1 1).toInt) (h : wp_X4_endOf P s x) : P (s.2 4 x.toInt.toNat) := by
  unfold wp_X4_endOf at h
  have h := ((of_has h0 h1 h).2 (by decide)).2
  rw [tn_i] at h
  exact h
theorem sm_lost {P6 : Bd → Prop} {P7 : Md → Prop} {b : Bd} {v : Md} {x y : Int32} {N R W D : Int} (hM : mb N R W D v) (hB : RB b (v.2.2.1 0)) (h0 : 0 ≤ x.toInt) (h1 : x.toInt < R * W) (hy : 0 ≤ y.toInt ∧ y.toInt ≤ 9) (h6 : wp_X0_setLost P6 b x y) (h7 : wp_X7_sets P7 v x 4 (Int32.toInt64 y)) : ∃ b' v', P6 b' ∧ P7 v' ∧ RB b' (v'.2.2.1 0) ∧ FN v v' := by
  have hf := hM.2.2.2.2.1
  have hR := hf.2.2.2.2.2.1
  have hc := RB_cells hf hB
  have at_ := (RB_at (c := x.toInt.toNat) hf hB (by omega)).1
  obtain ⟨w, h7, f1, gw⟩ := e7_sets (i := 4) h0 (by omega) rfl (by decide) h7
  unfold wp_X0_setLost at h6
  rcases e0_hasCell hc.2.2.1 h6 with ⟨h6, _⟩ | ⟨_, g⟩
  · have h6 := (h6.2 (by decide)).2
    rw [tn_i] at h6
    refine ⟨_, w, h6, h7, ?_, f1⟩
    rw [gw]
    refine RB_c (c := x.toInt.toNat) hB rfl ⟨rfl, rfl, rfl⟩ (fun j hj i hi => ?_) (fun i hi => rfl) (fun i hi => uL_n (by omega)) ⟨fun j hj => ?_, ?_⟩
    · show va_up b.2.1 7 _ (3 + j) i = _
      by_cases q : j = 4
      · subst q
        exact up_n hi
      · rw [va_n (by omega)]
    · show va_up b.2.1 7 _ (3 + j) x.toInt.toNat = _
      by_cases q : j = 4
      · subst q
        rw [uL_e, t32_64]
        exact up_e
      · rw [va_n (by omega), uL_n (by omega)]
        exact at_ j hj
    · rw [uL_n (by omega)]
      exact ⟨(RB_at (c := x.toInt.toNat) hf hB (by omega)).2, RB_w (c := x.toInt.toNat) hf hB (by omega)⟩
  · omega
theorem sm_home_L {P6 : Bd → Prop} {Q : Md → Prop} {p : Int32 → Md → Prop} {z1 x : Int32} {N R W D : Int} (hD : 0 < D) (hx : 0 ≤ z1.toInt ∧ z1.toInt < R) : ∀ (n6 n7 : Nat) (b : Bd) (v : Md) (z : Int32), 0 ≤ z.toInt → z.toInt ≤ W → v.1 8 = z1 → RB b (v.2.2.1 0) → mb N R W D v → wp_X0_wantHome_L2 P6 (fun t0 _ _ => P6 t0) n6 b z1 z → wp_X7_goesHome_L38 p (fun w _ _ => Q w) n7 v x z → ∃ b' v', P6 b' ∧ Q v' ∧ RB b' (v'.2.2.1 0) ∧ mb N R W D v' ∧ FN v v' := by
  have e1 : (1 : Int32).toInt = 1 := rfl
  have e0 : (0 : Int32).toInt = 0 := rfl
  intro n6
  induction n6 with
  | zero =>
    intro n7 b v z _ _ _ _ _ h
    exact (show False from h).elim
  | succ n6 ih =>
    intro n7 b v z h0 h1 h8 hB hM h6 h7
    cases n7 with
    | zero => exact (show False from h7).elim
    | succ n7 =>
      have hf := hM.2.2.2.2.1
      have hR := hf.2.2.2.2.2.1
      have rc := RB_cells hf hB
      have rn := rw_n hf
      have k := nrow hx.1 hx.2 (W := W) (by omega)
      unfold wp_X0_wantHome_L2 at h6
      unfold wp_X7_goesHome_L38 at h7
      have h7 := wide_e h7
      have ew : Int64.toInt32 (v.2.2.1 0 1) = b.1 1 := Int32.toInt_inj.mp (rn.2.1.trans rc.2.1.symm)
      rw [ew] at h7
      by_cases c : b.1 1 ≤ z
      · exact ⟨b, v, h6.1 c, h7.1 c, hB, hM, FN_rf v⟩
      · have := q_nle c
        have h6 := (h6.2 c).2
        have h7 := wide_e (h7.2 c)
        rw [ew, h8] at h7
        have m1 : (z1 * b.1 1).toInt = z1.toInt * W := by
          have := tq_mul z1 (b.1 1)
          rw [rc.2.1] at this
          exact nw this (by omega)
        have m2 := nw (tq_add (z1 * b.1 1) z) (by omega)
        have em : b.1 1 * z1 = z1 * b.1 1 := Int32.mul_comm _ _
        rw [em] at h7
        generalize hcc : z1 * b.1 1 + z = cc at *
        obtain ⟨q0, q1, q2, q3, q4, q5⟩ := cl_f (c := cc.toInt.toNat) hf hD (by omega)
        have sz := nw (tq_addr e1 z) (by omega)
        have fp : (0 : Int) < fl_c (v.2.2.1 0) cc := by
          show 0 < d_f (v.2.2.1 0) (c_f (v.2.2.1 0) cc.toInt.toNat 0).toNat
          omega
        have h7 := dt_conj (dt_X7_wantsFlap v cc 0 0) h7 (wq_X7_wantsFlap (post := fun u => mb N R W D u) hM ⟨by omega, by omega⟩ hD ⟨by decide, by decide, by rw [e0]; exact fp⟩ (fun u a _ => a))
        obtain ⟨v', ⟨h7, m7⟩, f1, g1⟩ := e7_wantsFlap hf hD (by omega) (by omega) (by decide) h7
        rw [tn_i] at h6
        have at_ := RB_at (c := cc.toInt.toNat) hf hB (by omega)
        have B2 : RB (b.1, (va_up b.2.1 6 (upd (b.2.1 6) cc.toInt.toNat 0)), b.2.2.1, b.2.2.2.1, b.2.2.2.2) (vp_updL (v.2.2.1 0) (176 + 8 * cc.toInt.toNat + 3) (Int32.toInt64 0)) := by
          refine RB_c (c := cc.toInt.toNat) hB rfl ⟨rfl, rfl, rfl⟩ (fun j hj i hi => ?_) (fun i hi => rfl) (fun i hi => uL_n (by omega)) ⟨fun j hj => ?_, ?_⟩
          · show va_up b.2.1 6 _ (3 + j) i = _
            by_cases q : j = 3
            · subst q
              exact up_n hi
            · rw [va_n (by omega)]
          · show va_up b.2.1 6 _ (3 + j) cc.toInt.toNat = _
            by_cases q : j = 3
            · subst q
              rw [uL_e, t32_64]
              exact up_e
            · rw [va_n (by omega), uL_n (by omega)]
              exact at_.1 j hj
          · rw [uL_n (by omega)]
            exact ⟨at_.2, RB_w (c := cc.toInt.toNat) hf hB (by omega)⟩
        obtain ⟨b', v2, r1, r2, r3, r4, r5⟩ := ih n7 (b.1, (va_up b.2.1 6 (upd (b.2.1 6) cc.toInt.toNat 0)), b.2.2.1, b.2.2.2.1, b.2.2.2.2) v' (z + 1) (by omega) (by omega) (by rw [f1.1]; exact h8) (RB_cgr m7.2.2.2.2.1 g1 B2) m7 h6 h7
        exact ⟨b', v2, r1, r2, r3, r4, FN_tr f1 r5⟩
theorem e7_wait_i {Q : Md → Prop} {p : Int32 → Md → Prop} {b : Bd} {x : Int32} {N R W D : Int} (hD : 0 < D) : ∀ (n : Nat) (v : Md) (z : Int32), mb N R W D v → RB b (v.2.2.1 0) → IDL (v.2.2.1 0) R W → wp_X7_goesWait_L34 p (fun w _ _ => Q w) n v x z → ∃ v', Q v' ∧ v'.2.2.1 0 = v.2.2.1 0 ∧ mb N R W D v' ∧ TG v v' := by
  intro n
  induction n with
  | zero =>
    intro v z _ _ _ h
    exact (show False from h).elim
  | succ n ih =>
    intro v z hM hB hI h
    unfold wp_X7_goesWait_L34 at h
    by_cases c : v.1 8 ≤ z
    · exact ⟨v, h.1 c, rfl, hM, TG_rf v⟩
    · obtain ⟨v1, h, a1, a2, a3⟩ := e7_idle hM hD hB hI (h.2 c)
      obtain ⟨v', r1, r2, r3, r4⟩ := ih v1 (z + 1) a2 (by rw [a1]; exact hB) (by rw [a1]; exact hI) h
      exact ⟨v', r1, r2.trans a1, r3, TG_tr a3 r4⟩
theorem e7_wait_t {p : Int32 → Md → Prop} {e : Md → Int32 → Int32 → Prop} {x : Int32} {a a' : Nat → Int32} {v v' : Md} {k : Nat} (ht : TT a v a' v' k) : ∀ (n : Nat) (z : Int32), (v.1 8).toInt ≤ 9999 → 0 ≤ z.toInt → z.toInt + (k : Int) ≤ (v.1 8).toInt → wp_X7_goesWait_L34 p e n v x z → v'.1 8 = v.1 8 ∧ ∃ n' z', z'.toInt = z.toInt + (k : Int) ∧ wp_X7_goesWait_L34 p e n' v' x z' := by
  have e1 : (1 : Int32).toInt = 1 := rfl
  refine TT_ind (M := fun a v a' v' k => ∀ (n : Nat) (z : Int32), (v.1 8).toInt ≤ 9999 → 0 ≤ z.toInt → z.toInt + (k : Int) ≤ (v.1 8).toInt → wp_X7_goesWait_L34 p e n v x z → v'.1 8 = v.1 8 ∧ ∃ n' z', z'.toInt = z.toInt + (k : Int) ∧ wp_X7_goesWait_L34 p e n' v' x z') (fun a a' v g => ?_) (fun a a' v v1 v' r fo k g t ih => ?_) k ht
  · intro n z _ _ _ h
    exact ⟨rfl, n, z, by omega, h⟩
  · intro n z h8 h0 h1 h
    cases n with
    | zero => exact (show False from h).elim
    | succ n =>
      unfold wp_X7_goesWait_L34 at h
      have s := nw (tq_addr e1 z) (by omega)
      have e8 := g.2.2.2.2.2.2.2.1.2.2 8 (by decide)
      have h := g.1 _ (h.2 (fun c => by have := q_le c; omega))
      obtain ⟨q, n', z', r1, r2⟩ := ih n (z + 1) (by rw [e8]; exact h8) (by omega) (by rw [e8]; omega) h
      exact ⟨q.trans e8, n', z', by omega, r2⟩
/-- a step done -/
theorem sm_do {P6 : Bd → Mo → Prop} {Q : Md → Prop} {s1 : Tp} {b : Bd} {mo : Mo} {pg : Pg} {x k a bb q : Int32} {m0 u : Md} {N R W D : Int} (hD : 0 < D) (hx : RX s1 m0) (hk : KB m0 R W k a bb q) (hi : (0 ≤ x.toInt ∧ x.toInt < (pg.1 1).toInt) ∧ pg.2 0 x.toInt.toNat = k ∧ pg.2 1 x.toInt.toNat = a ∧ pg.2 2 x.toInt.toNat = bb ∧ pg.2 3 x.toInt.toNat = q) (hB : RB b (u.2.2.1 0)) (hM : mb N R W D u) (hv : u.2.2.2 2 = m0.2.2.2 2) (h6 : wp_X6_doStep P6 s1 b mo pg x) (h7 : DO k a bb q Q u) : ∃ b' mo' v', P6 b' mo' ∧ Q v' ∧ RB b' (v'.2.2.1 0) ∧ mb N R W D v' ∧ XG u v' := by
  obtain ⟨⟨i0, i1⟩, i2, i3, i4, i5⟩ := hi
  obtain ⟨k0, k6, k8, k9, k10, k7⟩ := hk
  obtain ⟨d6, d7, d8, d9, d10, d11⟩ := h7
  unfold wp_X6_doStep at h6
  have h6 := of_kind i0 i1 (of_two i0 i1 (of_one i0 i1 h6))
  rw [i2, i3, i4] at h6
  by_cases c6 : k = 6
  · have h6 := of_quo i0 i1 (h6.1 c6)
    rw [i5] at h6
    obtain ⟨r, b', v', g1, g2, g3, g4, g5⟩ := sm_wantSigns hD hx (k6 c6).1 (k6 c6).2.1 (k6 c6).2.2.1 (k6 c6).2.2.2.1 (k6 c6).2.2.2.2 hB hM hv h6 (d6 c6)
    exact ⟨b', mo, v', g1, g2, g3, g4, FN_xg g5⟩
  have h6 := h6.2 c6
  by_cases c7 : k = 7
  · have hk7 := k7 c7
    have hR := hM.2.2.2.2.1.2.2.2.2.2.1
    have y64 := tq_64 bb
    have h7 := dt_conj (dt_X7_sets u a 4 (Int32.toInt64 bb)) (d7 c7) (wq_X7_sets_4 (post := fun w => mb N R W D w) hM ⟨hk7.1.1, by omega⟩ (by omega) (fun w a _ _ => a))
    obtain ⟨b', v', g1, ⟨g2, g4⟩, g3, g5⟩ := sm_lost hM hB hk7.1.1 hk7.1.2 hk7.2 (h6.1 c7) h7
    exact ⟨b', mo, v', g1, g2, g3, g4, FN_xg g5⟩
  have h6 := h6.2 c7
  by_cases c8 : k = 8
  · have h6 := of_quo i0 i1 (h6.1 c8)
    rw [i5] at h6
    obtain ⟨r, b', v', g1, g2, g3, g4, g5, g6, g7⟩ := sm_scrolls hD hx (k8 c8).1 (k8 c8).2.1 (k8 c8).2.2.1 (k8 c8).2.2.2 hB hM hv h6 (d8 c8)
    exact ⟨b', mo, v', g1, g2, g3, g4, by rw [g5]; exact ie_refl _ _, fun k hk => g6 k (by omega), g7 0 (by decide), g7 2 (by decide)⟩
  have h6 := h6.2 c8
  by_cases c9 : k = 9
  · obtain ⟨e8, p, n7, x7, h7⟩ := d9 c9
    have h6 := h6.1 c9
    unfold wp_X0_wantHome at h6
    obtain ⟨n6, h6⟩ := h6
    have hR := hM.2.2.2.2.1.2.2.2.2.2.1
    obtain ⟨b', v', g1, g2, g3, g4, g5⟩ := sm_home_L hD (k9 c9) n6 n7 b u 0 (by decide) (by show (0 : Int) ≤ W; omega) e8 hB hM h6 h7
    exact ⟨b', mo, v', g1, g2, g3, g4, FN_xg g5⟩
  have h6 := h6.2 c9
  by_cases c10 : k = 10
  · obtain ⟨e8, p, n7, x7, h7⟩ := d10 c10
    have ka := k10 c10
    have e0 : (0 : Int32).toInt = 0 := rfl
    obtain ⟨kk, t', b', v', r1, r2, r3, r4, r5, r6, r7⟩ := sm_trn hM hD hB (by omega) (by omega) (h6.1 c10)
    obtain ⟨e8', n', z', y1, y2⟩ := e7_wait_t r2 n7 0 (by rw [e8]; omega) (by decide) (by rw [e8, e0]; omega) h7
    rw [e0] at y1
    rcases r7 with r7 | r7
    · cases n' with
      | zero => exact (show False from y2).elim
      | succ n' =>
        unfold wp_X7_goesWait_L34 at y2
        exact ⟨b', t', v', r1, y2.1 (Int32.le_iff_toInt_le.mpr (by rw [e8', e8]; omega)), r3, r4, TG_xg r5⟩
    · obtain ⟨w, w1, w2, w3, w4⟩ := e7_wait_i (b := b') hD n' v' z' r4 r3 r7 y2
      exact ⟨b', t', w, r1, w1, by rw [w2]; exact r3, w3, TG_xg (TG_tr r5 w4)⟩
  have h6 := h6.2 c10
  by_cases c11 : k = 11
  · obtain ⟨t', b', v', r1, r2, r3, r4, r5⟩ := sm_settles hM hD hB (h6.1 c11) (d11 c11)
    exact ⟨b', t', v', r1, r2, r3, r4, TG_xg r5⟩
  rcases k0 with g | g | g | g | g | g
  · exact (c6 g).elim
  · exact (c7 g).elim
  · exact (c8 g).elim
  · exact (c9 g).elim
  · exact (c10 g).elim
  · exact (c11 g).elim
