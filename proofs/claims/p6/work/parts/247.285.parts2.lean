/-! worn flaps, lost steps, rows of a board's text -/
theorem cell_x {s : Bd} {f : Nat → Int64} {R W D : Int} {c : Nat} (hf : rw_ok R W D f) (hD : 0 < D) (hB : RB s f) (hc : (c : Int) < R * W) : ∃ d : Nat, d < 4 ∧ (d : Int) < D ∧ c < 40 ∧ s.2.1 3 c = Int64.toInt32 (f (176 + 8 * c + 0)) ∧ (s.2.1 3 c).toInt = (d : Int) ∧ c_f f c 0 = (d : Int) ∧ s.2.1 1 d = Int64.toInt32 (f (8 + 42 * d + 1)) ∧ (s.2.1 1 d).toInt = d_f f d ∧ 2 ≤ d_f f d ∧ d_f f d ≤ 40 ∧ (s.1 3).toInt = D := by
  obtain ⟨q0, q1, q2, q3, q4, q5⟩ := cl_f hf hD hc
  have f0 := hf.1
  have f1 := hf.2.1
  have f3 := hf.2.2.1
  obtain ⟨b0, b1, b2⟩ := hB
  obtain ⟨c1, c2⟩ := b2 c (by rw [f0, f1]; exact hc)
  have x3 : s.2.1 3 c = Int64.toInt32 (f (176 + 8 * c + 0)) := c1 0 (by decide)
  have hd : (((c_f f c 0).toNat : Nat) : Int) = c_f f c 0 := by omega
  obtain ⟨_, d0, d1, d2⟩ := b1.2 (c_f f c 0).toNat (by omega)
  refine ⟨(c_f f c 0).toNat, by omega, by omega, q0.1, x3, ?_, hd.symm, d1, ?_, q1.1, q1.2, ?_⟩
  · rw [x3, t32 (by unfold c_f at q0; omega), hd]
    rfl
  · rw [d1, t32 (by unfold d_f at q1; omega)]
    rfl
  · rw [b0.2.2.2, t32 (by omega)]
    exact f3
theorem e0_flapsOf {P : Int32 → Prop} {s : Bd} {x : Int32} {d : Nat} (hd : d < 4) (h3 : (s.2.1 3 x.toInt.toNat).toInt = (d : Int)) (hD : (d : Int) < (s.1 3).toInt) (h : wp_X0_flapsOf P s x) : P (s.2.1 1 d) := by
  unfold wp_X0_flapsOf at h
  have e0 : (0 : Int32).toInt = 0 := rfl
  have tx : Int32.toNatClampNeg x = x.toInt.toNat := rfl
  rw [tx] at h
  have td : Int32.toNatClampNeg (s.2.1 3 x.toInt.toNat) = d := by
    rw [tn_i]
    omega
  rw [td] at h
  have h := h.2.2 (fun g => by have := q_lt g; omega)
  exact (h.2 (fun g => by have := q_le g; omega)).2
theorem e0_isWorn {P : Int32 → Prop} {s : Bd} {x y : Int32} (hy : 0 ≤ y.toInt ∧ y.toInt < 64) (h : wp_X0_isWorn P s x y) : (P 1 ∧ bs_at (s.2.2.1 x.toInt.toNat) y.toInt.toNat = true) ∨ (P 0 ∧ bs_at (s.2.2.1 x.toInt.toNat) y.toInt.toNat = false) := by
  unfold wp_X0_isWorn at h
  have tx : Int32.toNatClampNeg x = x.toInt.toNat := rfl
  rw [tx] at h
  have h := h.2
  by_cases c : lg_cmp (((s.2.2.1 x.toInt.toNat) >>> (Int32.toInt64 y &&& 63)) &&& 1) 0 = 0
  · exact Or.inr ⟨h.1 c, (bs_wt hy).mp c⟩
  · refine Or.inl ⟨h.2 c, ?_⟩
    cases g : bs_at (s.2.2.1 x.toInt.toNat) y.toInt.toNat with
    | true => rfl
    | false => exact absurd ((bs_wt hy).mpr g) c
theorem RB_at {s : Bd} {f : Nat → Int64} {R W D : Int} {c : Nat} (hf : rw_ok R W D f) (hB : RB s f) (hc : (c : Int) < R * W) : (∀ j : Nat, j < 7 → s.2.1 (3 + j) c = Int64.toInt32 (f (176 + 8 * c + j))) ∧ s.2.2.1 c = f (176 + 8 * c + 7) :=
  have q := hB.2.2 c (by rw [hf.1, hf.2.1]; exact hc)
  ⟨q.1, q.2.1⟩
theorem RB_w {s : Bd} {f : Nat → Int64} {R W D : Int} {c : Nat} (hf : rw_ok R W D f) (hB : RB s f) (hc : (c : Int) < R * W) : bs_at (f (176 + 8 * c + 7)) 0 = false := (hB.2.2 c (by rw [hf.1, hf.2.1]; exact hc)).2.2
theorem sm_wears {P6 : Bd → Prop} {P7 : Md → Prop} {b : Bd} {v : Md} {x y : Int32} {R W D : Int} (hf : rw_ok R W D (v.2.2.1 0)) (hB : RB b (v.2.2.1 0)) (hx : 0 ≤ x.toInt) (hc : x.toInt < R * W) (hc2 : R * W ≤ 40) (hy : 1 ≤ y.toInt ∧ y.toInt < 40) (h6 : wp_X0_wearFlap P6 b x y) (h7 : wp_X7_wears P7 v x y) : ∃ b' v', P6 b' ∧ P7 v' ∧ FN v v' ∧ RB b' (v'.2.2.1 0) := by
  unfold wp_X0_wearFlap at h6
  unfold wp_X7_wears at h7
  have tx : Int32.toNatClampNeg x = x.toInt.toNat := rfl
  rw [tx] at h6
  have at_ := RB_at (c := x.toInt.toNat) hf hB (by omega)
  have h7 := e7_wornOf hx (by omega) h7
  obtain ⟨u, h7, f1, g1⟩ := e7_sets (i := 7) hx (by omega) rfl (by decide) h7
  have h7 := e7_of (i := 3) hx (by omega) rfl (by decide) h7
  rw [g1, uL_n (by omega), ← at_.1 3 (by decide)] at h7
  have h6 := h6.2.2.2
  rw [at_.2] at h6
  have h7 : (¬ b.2.1 6 x.toInt.toNat = y → P7 u) ∧ (b.2.1 6 x.toInt.toNat = y → wp_X7_sets (fun u_9 => P7 u_9) u x 3 0) := h7
  by_cases c : b.2.1 6 x.toInt.toNat = y
  · obtain ⟨w, k7, f2, g2⟩ := e7_sets (i := 3) hx (by omega) rfl (by decide) (h7.2 c)
    refine ⟨_, w, (h6.2 c).2, k7, FN_tr f1 f2, ?_⟩
    rw [g2, g1]
    refine RB_c (c := x.toInt.toNat) hB rfl ⟨rfl, rfl, rfl⟩ (fun j hj i hi => ?_) (fun i hi => uL_n hi) (fun i hi => ?_) ⟨fun j hj => ?_, ?_⟩
    · show va_up b.2.1 6 _ (3 + j) i = _
      by_cases q : j = 3
      · subst q
        exact up_n hi
      · rw [va_n (by omega)]
    · rw [uL_n (by omega), uL_n (by omega)]
    · show va_up b.2.1 6 _ (3 + j) x.toInt.toNat = _
      by_cases q : j = 3
      · subst q
        rw [uL_e]
        exact up_e
      · rw [va_n (by omega), uL_n (by omega), uL_n (by omega)]
        exact at_.1 j hj
    · refine ⟨?_, ?_⟩
      · show vp_updL b.2.2.1 x.toInt.toNat _ x.toInt.toNat = _
        rw [uL_e, uL_n (by omega), uL_e]
      · rw [uL_n (by omega), uL_e, bs_or (by omega), RB_w (c := x.toInt.toNat) hf hB (by omega), decide_eq_false (by omega)]
        rfl
  · refine ⟨_, u, h6.1 c, h7.1 c, f1, ?_⟩
    rw [g1]
    refine RB_c (c := x.toInt.toNat) hB rfl ⟨rfl, rfl, rfl⟩ (fun j hj i hi => rfl) (fun i hi => uL_n hi) (fun i hi => uL_n (by omega)) ⟨fun j hj => ?_, ?_⟩
    · show b.2.1 (3 + j) x.toInt.toNat = _
      rw [uL_n (by omega)]
      exact at_.1 j hj
    · refine ⟨?_, ?_⟩
      · show vp_updL b.2.2.1 x.toInt.toNat _ x.toInt.toNat = _
        rw [uL_e, uL_e]
      · rw [uL_e, bs_or (by omega), RB_w (c := x.toInt.toNat) hf hB (by omega), decide_eq_false (by omega)]
        rfl
theorem sm_readWorn {P6 : Bd → Tp → Prop} {P7 : Int32 → Md → Prop} {b : Bd} {t : Tp} {v : Md} {R W D : Int} (hR : RT t ((va_up v.1 6 ((v.1 6) + 4)), v.2.1, v.2.2.1, v.2.2.2)) (hB : RB b (v.2.2.1 0)) (hf : rw_ok R W D (v.2.2.1 0)) (hD : 0 < D) (h6 : wp_X1_readWorn P6 b t) (h7 : wp_X7_readsWorn P7 v) : ∃ b' t' r v', P6 b' t' ∧ P7 r v' ∧ OUT b' t' r v' := by
  have rn := rw_n hf
  have e1 : (1 : Int32).toInt = 1 := rfl
  have e0 : (0 : Int32).toInt = 0 := rfl
  unfold wp_X1_readWorn at h6
  unfold wp_X7_readsWorn at h7
  have h6 := cells6_e h6
  have h7 := cells7_e h7
  have h7 : wp_X7_readsNumber _ _ (0 : Int32) (Int64.toInt32 (v.2.2.1 0 0) * Int64.toInt32 (v.2.2.1 0 1) - 1) := h7
  have s1 := nw (tq_subr e1 (Int64.toInt32 (v.2.2.1 0 0) * Int64.toInt32 (v.2.2.1 0 1))) (by omega)
  rw [hB.1.1, hB.1.2.1] at h6
  obtain ⟨r1, u1, r7, v1, a1, a2, a3, a4⟩ := sm_number hR (by decide) (by omega) h6 h7
  rcases a4 with ⟨rfl, a4, a5, a6, a7, _⟩ | ⟨rfl, a4⟩
  · have fv1 : v1.2 = v.2 := a3.2.2.2
    have h7 := a2.1 (by decide)
    rw [← a5] at h7
    rw [e0] at a6
    have hc : r1.toInt < R * W := by omega
    obtain ⟨d, x1, x2, x3, x4, x5, x6, x7, x8, x9, x10, x11⟩ := cell_x (c := r1.toInt.toNat) hf hD hB (by omega)
    have h6 := e0_flapsOf x1 x5 (by omega) a1
    unfold wp_X7_flaps at h7
    have h7 := e7_flapsOf (by
      rw [fv1]
      have : (Int64.toInt32 (v.2.2.1 0 (176 + 8 * r1.toInt.toNat + 0))).toInt = (d : Int) := by rw [← x4]; exact x5
      omega) (by
      rw [fv1]
      have : (Int64.toInt32 (v.2.2.1 0 (176 + 8 * r1.toInt.toNat + 0))).toInt = (d : Int) := by rw [← x4]; exact x5
      omega) (e7_of (i := 0) a6 (by omega) rfl (by decide) h7)
    have dn : (Int64.toInt32 (v.2.2.1 0 (176 + 8 * r1.toInt.toNat + 0))).toInt.toNat = d := by
      rw [← x4]
      omega
    rw [fv1, dn, ← x7] at h7
    have s2 := nw (tq_subr e1 (b.2.1 1 d)) (by omega)
    obtain ⟨r2, u2, r8, v2, b1, b2, b3, b4⟩ := sm_number a4 (by decide) (by omega) h6 h7
    have fv2 : v2.2 = v.2 := b3.2.2.2.trans fv1
    rcases b4 with ⟨rfl, b4, b5, b6, b7, b8, b9, b10⟩ | ⟨rfl, b4⟩
    · have k6 := ((e5_isSound b1).1 b4.2.2.2.2).2 (by decide)
      have k7 := e7_wornOf a6 (by omega) (b2.1 (by decide))
      rw [← b5] at k7
      rw [e1] at b6
      have at_ := RB_at (c := r1.toInt.toNat) hf hB (by omega)
      rw [fv2] at k7
      rcases e0_isWorn (by omega) k6 with ⟨k6, w6⟩ | ⟨k6, w6⟩
      · rcases e7_isIn (by omega) k7 with ⟨k7, w7⟩ | ⟨k7, w7⟩
        · obtain ⟨w, y, c1, c2, c3, c4⟩ := sm_fault b4.2.2.2.2 b8 b9 b10.1 (by decide) (by decide) (k6.2 (by decide)) (k7.2 (by decide))
          have k := fa_sound c4 c1
          exact ⟨b, w, 0, y, k.1 rfl, c2.2, Or.inr ⟨rfl, c4⟩⟩
        · rw [at_.2, w7] at w6
          exact absurd w6 (by decide)
      · rcases e7_isIn (by omega) k7 with ⟨k7, w7⟩ | ⟨k7, w7⟩
        · rw [at_.2, w7] at w6
          exact absurd w6 (by decide)
        · have k6 := ((e5_isSound (k6.1 rfl)).1 b4.2.2.2.2).2 (by decide)
          have k7 := k7.1 rfl
          obtain ⟨b', v', g1, g2, g3, g4⟩ := sm_wears (R := R) (W := W) (D := D) (by rw [fv2]; exact hf) (by rw [fv2]; exact hB) a6 hc (by omega) (by omega) k6 k7
          exact ⟨b', u2, 1, v', g1, g2, Or.inl ⟨rfl, RT_fn b4 g3, g4⟩⟩
    · have k6 := (fa_sound b4 b1).1 rfl
      have k6 := (fa_sound b4 k6).1 rfl
      exact ⟨b, u2, 0, v2, k6, b2.2 rfl, Or.inr ⟨rfl, b4⟩⟩
  · obtain ⟨r5, h6, _⟩ := xf_dt (dt_X0_flapsOf b r1) _ a1
    obtain ⟨r2, u2, b1, b4⟩ := fa_num a4 h6
    have k6 := (fa_sound b4 b1).1 rfl
    have k6 := (fa_sound b4 k6).1 rfl
    exact ⟨b, u2, 0, v1, k6, a2.2 rfl, Or.inr ⟨rfl, b4⟩⟩
theorem sm_readLose {P6 : Bd → Tp → Prop} {P7 : Int32 → Md → Prop} {b : Bd} {t : Tp} {v : Md} {R W D : Int} (hR : RT t ((va_up v.1 6 ((v.1 6) + 4)), v.2.1, v.2.2.1, v.2.2.2)) (hB : RB b (v.2.2.1 0)) (hf : rw_ok R W D (v.2.2.1 0)) (h6 : wp_X1_readLose P6 b t) (h7 : wp_X7_readsLose (fun r_19 u_20 => ((¬ r_19 = 0 → wp_X7_sets (fun u_23 => P7 1 u_23) u_20 (u_20.1 12) (4 : Int32) (Int32.toInt64 (u_20.1 8))) ∧ (r_19 = 0 → P7 0 u_20))) v) : ∃ b' t' r v', P6 b' t' ∧ P7 r v' ∧ OUT b' t' r v' := by
  have rn := rw_n hf
  have e1 : (1 : Int32).toInt = 1 := rfl
  have e0 : (0 : Int32).toInt = 0 := rfl
  unfold wp_X1_readLose at h6
  unfold wp_X7_readsLose at h7
  have h6 := cells6_e h6
  have h7 := cells7_e h7
  have h7 : wp_X7_readsNumber _ _ (0 : Int32) (Int64.toInt32 (v.2.2.1 0 0) * Int64.toInt32 (v.2.2.1 0 1) - 1) := h7
  have s1 := nw (tq_subr e1 (Int64.toInt32 (v.2.2.1 0 0) * Int64.toInt32 (v.2.2.1 0 1))) (by omega)
  rw [hB.1.1, hB.1.2.1] at h6
  obtain ⟨r1, u1, r7, v1, a1, a2, a3, a4⟩ := sm_number hR (by decide) (by omega) h6 h7
  rcases a4 with ⟨rfl, a4, a5, a6, a7, _⟩ | ⟨rfl, a4⟩
  · have fv1 : v1.2 = v.2 := a3.2.2.2
    have h7 := a2.1 (by decide)
    rw [e0] at a6
    have hc : r1.toInt < R * W := by omega
    obtain ⟨r2, u2, r8, v2, b1, b2, b3, b4⟩ := sm_number (show RT u1 ((va_up v1.1 12 (v1.1 8)), v1.2.1, v1.2.2.1, v1.2.2.2) from a4) (by decide) (by decide) a1 h7
    have fv2 : v2.2 = v.2 := b3.2.2.2.trans fv1
    have b2 := b2.2
    rcases b4 with ⟨rfl, b4, b5, b6, b7, _⟩ | ⟨rfl, b4⟩
    · have k6 := ((e5_isSound b1).1 b4.2.2.2.2).2 (by decide)
      have k7 := b2.1 (by decide)
      have e12 : v2.1 12 = r1 := (b3.2.2.1 12 (by decide)).trans a5.symm
      rw [e12, ← b5] at k7
      unfold wp_X0_setLost wp_X0_hasCell at k6
      have k6 := cells6_e (k6.2 (fun g => by have := q_lt g; omega))
      rw [hB.1.1, hB.1.2.1] at k6
      have k6 := ((k6.2 (fun g => by have := q_le g; omega)).2 (by decide)).2
      obtain ⟨v3, k7, f3, g3⟩ := e7_sets (i := 4) a6 (by omega) rfl (by decide) k7
      have at_ := RB_at (c := r1.toInt.toNat) hf hB (by omega)
      refine ⟨_, u2, 1, v3, k6, k7, Or.inl ⟨rfl, RT_fn b4 f3, ?_⟩⟩
      rw [g3, fv2]
      refine RB_c (c := r1.toInt.toNat) hB rfl ⟨rfl, rfl, rfl⟩ (fun j hj i hi => ?_) (fun i hi => rfl) (fun i hi => uL_n (by omega)) ⟨fun j hj => ?_, ?_⟩
      · show va_up b.2.1 7 _ (3 + j) i = _
        by_cases q : j = 4
        · subst q
          exact up_n hi
        · rw [va_n (by omega)]
      · show va_up b.2.1 7 _ (3 + j) r1.toInt.toNat = _
        by_cases q : j = 4
        · subst q
          rw [uL_e, t32_64]
          exact up_e
        · rw [va_n (by omega), uL_n (by omega)]
          exact at_.1 j hj
      · rw [uL_n (by omega)]
        exact ⟨at_.2, RB_w (c := r1.toInt.toNat) hf hB (by omega)⟩
    · exact ⟨b, u2, 0, v2, (fa_sound b4 b1).1 rfl, b2.2 rfl, Or.inr ⟨rfl, b4⟩⟩
  · obtain ⟨r2, u2, b1, b4⟩ := fa_num a4 a1
    exact ⟨b, u2, 0, v1, (fa_sound b4 b1).1 rfl, (a2.2 rfl).2 rfl, Or.inr ⟨rfl, b4⟩⟩
