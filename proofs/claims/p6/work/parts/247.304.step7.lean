/-! One step of a cell, by the reference. -/
def SR (f g : Nat → Int64) (c : Nat) (F : Int32) : Prop := (∀ i, ¬ (176 + 8 * c ≤ i ∧ i < 176 + 8 * c + 8) → ¬ (i = 6 ∨ i = 7) → g i = f i) ∧ g (176 + 8 * c + 0) = f (176 + 8 * c + 0) ∧ g (176 + 8 * c + 3) = f (176 + 8 * c + 3) ∧ g (176 + 8 * c + 7) = f (176 + 8 * c + 7) ∧ Int64.toInt32 (g (176 + 8 * c + 1)) = (ST F (Int64.toInt32 (f (176 + 8 * c + 1))) (Int64.toInt32 (f (176 + 8 * c + 2))) (Int64.toInt32 (f (176 + 8 * c + 4)))).1 ∧ Int64.toInt32 (g (176 + 8 * c + 2)) = (ST F (Int64.toInt32 (f (176 + 8 * c + 1))) (Int64.toInt32 (f (176 + 8 * c + 2))) (Int64.toInt32 (f (176 + 8 * c + 4)))).2.1 ∧ Int64.toInt32 (g (176 + 8 * c + 4)) = (ST F (Int64.toInt32 (f (176 + 8 * c + 1))) (Int64.toInt32 (f (176 + 8 * c + 2))) (Int64.toInt32 (f (176 + 8 * c + 4)))).2.2.1 ∧ Int64.toInt32 (g (176 + 8 * c + 5)) = Int64.toInt32 (f (176 + 8 * c + 5)) + 1 ∧ Int64.toInt32 (g (176 + 8 * c + 6)) = Int64.toInt32 (f (176 + 8 * c + 6)) + (ST F (Int64.toInt32 (f (176 + 8 * c + 1))) (Int64.toInt32 (f (176 + 8 * c + 2))) (Int64.toInt32 (f (176 + 8 * c + 4)))).2.2.2 ∧ g 6 = f 6 + 1 ∧ g 7 = f 7 + Int32.toInt64 (ST F (Int64.toInt32 (f (176 + 8 * c + 1))) (Int64.toInt32 (f (176 + 8 * c + 2))) (Int64.toInt32 (f (176 + 8 * c + 4)))).2.2.2
theorem flF_c {f g : Nat → Int64} {c : Nat} {R W D : Int} (hf : rw_ok R W D f) (hD : 0 < D) (hc : (c : Int) < R * W) (h0 : g (176 + 8 * c + 0) = f (176 + 8 * c + 0)) (h : ∀ i : Nat, 8 ≤ i → i < 176 → g i = f i) : flF g c = flF f c := by
  obtain ⟨q0, q1, q2, q3, q4, q5⟩ := cl_f (c := c) hf hD hc
  unfold flF
  have e : c_f g c 0 = c_f f c 0 := by unfold c_f; rw [h0]
  rw [e]
  unfold d_f
  rw [h _ (by omega) (by omega)]
theorem e7_flG {P : Int32 → Prop} {s : Md} {f : Nat → Int64} {x : Int32} {R W D : Int} (hf : rw_ok R W D f) (hD : 0 < D) (h0 : 0 ≤ x.toInt) (h1 : x.toInt < R * W) (g0 : s.2.2.1 0 (176 + 8 * x.toInt.toNat + 0) = f (176 + 8 * x.toInt.toNat + 0)) (hg : ∀ i : Nat, 8 ≤ i → i < 176 → s.2.2.1 0 i = f i) (h : wp_X7_flaps P s x) : P (Int64.toInt32 (f (8 + 42 * (c_f f x.toInt.toNat 0).toNat + 1))) := by
  obtain ⟨q0, q1, q2, q3, q4, q5⟩ := cl_f (c := x.toInt.toNat) hf hD (by omega)
  unfold wp_X7_flaps at h
  have h := e7_of (i := 0) h0 (by omega) rfl (by decide) h
  rw [g0] at h
  have e : (Int64.toInt32 (f (176 + 8 * x.toInt.toNat + 0))).toInt = c_f f x.toInt.toNat 0 := by
    rw [t32 (by unfold c_f at q0; omega)]
    rfl
  have h := e7_flapsOf (by omega) (by omega) h
  rw [e, hg _ (by omega) (by omega)] at h
  exact h
theorem e7_steps {P : Md → Prop} {s : Md} {x : Int32} {R W D : Int} (hf : rw_ok R W D (s.2.2.1 0)) (hD : 0 < D) (h0 : 0 ≤ x.toInt) (h1 : x.toInt < R * W) (h : wp_X7_steps P s x) : ∃ F : Int32, F.toInt = flF (s.2.2.1 0) x.toInt.toNat ∧ ∃ u, P u ∧ FN s u ∧ SR (s.2.2.1 0) (u.2.2.1 0) x.toInt.toNat F := by
  obtain ⟨q0, q1, q2, q3, q4, q5⟩ := cl_f (c := x.toInt.toNat) hf hD (by omega)
  have e0 : (0 : Int32).toInt = 0 := rfl
  have z0 : Int64.toInt32 0 = 0 := rfl
  have z64 : Int32.toInt64 0 = 0 := rfl
  have t6 : Int32.toNatClampNeg 6 = 6 := rfl
  have t7 : Int32.toNatClampNeg 7 = 7 := rfl
  unfold wp_X7_steps at h
  have h := e7_of (i := 2) h0 (by omega) rfl (by decide) h
  have h := e7_flG hf hD h0 h1 rfl (fun _ _ _ => rfl) h
  have eF : (Int64.toInt32 (s.2.2.1 0 (8 + 42 * (c_f (s.2.2.1 0) x.toInt.toNat 0).toNat + 1))).toInt = flF (s.2.2.1 0) x.toInt.toNat := by
    rw [t32 (by unfold d_f at q1; omega)]
    rfl
  have eb : (Int64.toInt32 (s.2.2.1 0 (176 + 8 * x.toInt.toNat + 2))).toInt = c_f (s.2.2.1 0) x.toInt.toNat 2 := by
    have z : (s.2.2.1 0 (176 + 8 * x.toInt.toNat + 2)).toInt = c_f (s.2.2.1 0) x.toInt.toNat 2 := rfl
    have := q1.2
    rw [t32 (by omega)]
    exact z
  have es : (Int64.toInt32 (s.2.2.1 0 (176 + 8 * x.toInt.toNat + 1))).toInt = c_f (s.2.2.1 0) x.toInt.toNat 1 := by
    have z : (s.2.2.1 0 (176 + 8 * x.toInt.toNat + 1)).toInt = c_f (s.2.2.1 0) x.toInt.toNat 1 := rfl
    have := q1.2
    rw [t32 (by omega)]
    exact z
  have hF40 : flF (s.2.2.1 0) x.toInt.toNat ≤ 40 := q1.2
  have h3 : c_f (s.2.2.1 0) x.toInt.toNat 2 < flF (s.2.2.1 0) x.toInt.toNat := q3.2
  have h2 : c_f (s.2.2.1 0) x.toInt.toNat 1 < flF (s.2.2.1 0) x.toInt.toNat := q2.2
  generalize hFe : Int64.toInt32 (s.2.2.1 0 (8 + 42 * (c_f (s.2.2.1 0) x.toInt.toNat 0).toNat + 1)) = F at *
  refine ⟨F, eF, ?_⟩
  have h := h.2
  rw [bh_m (by omega)] at h
  obtain ⟨u1, h, f1, g1⟩ := e7_sets (i := 2) h0 (by omega) rfl (by decide) h
  have h := e7_of (i := 5) h0 (by omega) rfl (by decide) h
  obtain ⟨u2, h, f2, g2⟩ := e7_sets (i := 5) h0 (by omega) rfl (by decide) h
  have h := e7_of (i := 4) h0 (by omega) rfl (by decide) h
  rw [t6] at h
  have rw3 : ∀ i, ¬ i = 6 → ¬ i = 176 + 8 * x.toInt.toNat + 5 → ¬ i = 176 + 8 * x.toInt.toNat + 2 → ((u2.1, u2.2.1, (va_up u2.2.2.1 0 (vp_updL (u2.2.2.1 0) 6 ((u2.2.2.1 0 6) + 1))), u2.2.2.2) : Md).2.2.1 0 i = s.2.2.1 0 i := by
    intro i a b c
    show vp_updL (u2.2.2.1 0) 6 _ i = _
    rw [uL_n a, g2, uL_n b, g1, uL_n c]
  have r6 : u2.2.2.1 0 6 = s.2.2.1 0 6 := by rw [g2, uL_n (by omega), g1, uL_n (by omega)]
  have f3 : FN s (u2.1, u2.2.1, (va_up u2.2.2.1 0 (vp_updL (u2.2.2.1 0) 6 ((u2.2.2.1 0 6) + 1))), u2.2.2.2) := FN_tr f1 (FN_tr f2 (FN_up u2 _))
  have v5 : ((u2.1, u2.2.1, (va_up u2.2.2.1 0 (vp_updL (u2.2.2.1 0) 6 ((u2.2.2.1 0 6) + 1))), u2.2.2.2) : Md).2.2.1 0 (176 + 8 * x.toInt.toNat + 5) = Int32.toInt64 (Int64.toInt32 (s.2.2.1 0 (176 + 8 * x.toInt.toNat + 5)) + 1) := by
    show vp_updL (u2.2.2.1 0) 6 _ _ = _
    rw [uL_n (by omega), g2, uL_e, g1, uL_n (by omega)]
  have v2 : ((u2.1, u2.2.1, (va_up u2.2.2.1 0 (vp_updL (u2.2.2.1 0) 6 ((u2.2.2.1 0 6) + 1))), u2.2.2.2) : Md).2.2.1 0 (176 + 8 * x.toInt.toNat + 2) = Int32.toInt64 (bh (Int64.toInt32 (s.2.2.1 0 (176 + 8 * x.toInt.toNat + 2))) F) := by
    show vp_updL (u2.2.2.1 0) 6 _ _ = _
    rw [uL_n (by omega), g2, uL_n (by omega), g1, uL_e]
  have v6 : ((u2.1, u2.2.1, (va_up u2.2.2.1 0 (vp_updL (u2.2.2.1 0) 6 ((u2.2.2.1 0 6) + 1))), u2.2.2.2) : Md).2.2.1 0 6 = s.2.2.1 0 6 + 1 := by
    show vp_updL (u2.2.2.1 0) 6 ((u2.2.2.1 0 6) + 1) 6 = _
    rw [uL_e, r6]
  generalize hu3 : ((u2.1, u2.2.1, (va_up u2.2.2.1 0 (vp_updL (u2.2.2.1 0) 6 ((u2.2.2.1 0 6) + 1))), u2.2.2.2) : Md) = u3 at *
  rw [rw3 _ (by omega) (by omega) (by omega)] at h
  by_cases c : Int64.toInt32 (s.2.2.1 0 (176 + 8 * x.toInt.toNat + 4)) ≤ 0
  · have h := e7_of (i := 1) h0 (by omega) rfl (by decide) (h.1 c)
    have h := e7_flG hf hD h0 h1 (rw3 _ (by omega) (by omega) (by omega)) (fun i a b => rw3 i (by omega) (by omega) (by omega)) h
    rw [hFe, rw3 _ (by omega) (by omega) (by omega)] at h
    have h := h.2
    rw [bh_m (by omega)] at h
    obtain ⟨u4, h, f4, g4⟩ := e7_sets (i := 1) h0 (by omega) rfl (by decide) h
    have h := e7_of (i := 1) h0 (by omega) rfl (by decide) h
    rw [g4, uL_e, t32_64] at h
    have stp : ST F (Int64.toInt32 (s.2.2.1 0 (176 + 8 * x.toInt.toNat + 1))) (Int64.toInt32 (s.2.2.1 0 (176 + 8 * x.toInt.toNat + 2))) (Int64.toInt32 (s.2.2.1 0 (176 + 8 * x.toInt.toNat + 4))) = (if bh (Int64.toInt32 (s.2.2.1 0 (176 + 8 * x.toInt.toNat + 1))) F = 0 then (0, 0, Int64.toInt32 (s.2.2.1 0 (176 + 8 * x.toInt.toNat + 4)), bh (Int64.toInt32 (s.2.2.1 0 (176 + 8 * x.toInt.toNat + 2))) F) else (bh (Int64.toInt32 (s.2.2.1 0 (176 + 8 * x.toInt.toNat + 1))) F, bh (Int64.toInt32 (s.2.2.1 0 (176 + 8 * x.toInt.toNat + 2))) F, Int64.toInt32 (s.2.2.1 0 (176 + 8 * x.toInt.toNat + 4)), 0)) := by
      unfold ST
      rw [if_pos c]
    unfold SR
    rw [stp]
    by_cases c2 : bh (Int64.toInt32 (s.2.2.1 0 (176 + 8 * x.toInt.toNat + 1))) F = 0
    · rw [if_pos c2]
      have h := e7_of (i := 6) h0 (by omega) rfl (by decide) (h.1 c2)
      obtain ⟨u5, h, f5, g5⟩ := e7_sets (i := 6) h0 (by omega) rfl (by decide) h
      rw [t7] at h
      obtain ⟨u6, h, f6, g6⟩ := e7_sets (i := 2) h0 (by omega) rfl (by decide) h
      have g6 : u6.2.2.1 0 = vp_updL (vp_updL (u5.2.2.1 0) 7 ((u5.2.2.1 0 7) + Int32.toInt64 (bh (Int64.toInt32 (s.2.2.1 0 (176 + 8 * x.toInt.toNat + 2))) F))) (176 + 8 * x.toInt.toNat + 2) 0 := g6
      refine ⟨u6, h, FN_tr f3 (FN_tr f4 (FN_tr f5 (FN_tr (FN_up u5 _) f6))), fun i a b => ?_, ?_, ?_, ?_, ?_, ?_, ?_, ?_, ?_, ?_, ?_⟩
      · rw [g6, uL_n (by omega), uL_n (by omega), g5, uL_n (by omega), g4, uL_n (by omega)]
        exact rw3 i (by omega) (by omega) (by omega)
      · rw [g6, uL_n (by omega), uL_n (by omega), g5, uL_n (by omega), g4, uL_n (by omega)]
        exact rw3 _ (by omega) (by omega) (by omega)
      · rw [g6, uL_n (by omega), uL_n (by omega), g5, uL_n (by omega), g4, uL_n (by omega)]
        exact rw3 _ (by omega) (by omega) (by omega)
      · rw [g6, uL_n (by omega), uL_n (by omega), g5, uL_n (by omega), g4, uL_n (by omega)]
        exact rw3 _ (by omega) (by omega) (by omega)
      · rw [g6, uL_n (by omega), uL_n (by omega), g5, uL_n (by omega), g4, uL_e, t32_64]
        exact c2
      · rw [g6, uL_e]
        rfl
      · rw [g6, uL_n (by omega), uL_n (by omega), g5, uL_n (by omega), g4, uL_n (by omega), rw3 _ (by omega) (by omega) (by omega)]
      · rw [g6, uL_n (by omega), uL_n (by omega), g5, uL_n (by omega), g4, uL_n (by omega), v5, t32_64]
      · rw [g6, uL_n (by omega), uL_n (by omega), g5, uL_e, t32_64, g4, uL_n (by omega), rw3 _ (by omega) (by omega) (by omega)]
      · rw [g6, uL_n (by omega), uL_n (by omega), g5, uL_n (by omega), g4, uL_n (by omega)]
        exact v6
      · rw [g6, uL_n (by omega), uL_e, g5, uL_n (by omega), g4, uL_n (by omega), rw3 _ (by omega) (by omega) (by omega)]
    · rw [if_neg c2]
      have h := h.2 c2
      refine ⟨u4, h, FN_tr f3 f4, fun i a b => ?_, ?_, ?_, ?_, ?_, ?_, ?_, ?_, ?_, ?_, ?_⟩
      · rw [g4, uL_n (by omega)]
        exact rw3 i (by omega) (by omega) (by omega)
      · rw [g4, uL_n (by omega)]
        exact rw3 _ (by omega) (by omega) (by omega)
      · rw [g4, uL_n (by omega)]
        exact rw3 _ (by omega) (by omega) (by omega)
      · rw [g4, uL_n (by omega)]
        exact rw3 _ (by omega) (by omega) (by omega)
      · rw [g4, uL_e, t32_64]
      · rw [g4, uL_n (by omega), v2, t32_64]
      · rw [g4, uL_n (by omega), rw3 _ (by omega) (by omega) (by omega)]
      · rw [g4, uL_n (by omega), v5, t32_64]
      · rw [g4, uL_n (by omega), rw3 _ (by omega) (by omega) (by omega), Int32.add_zero]
      · rw [g4, uL_n (by omega)]
        exact v6
      · rw [g4, uL_n (by omega), rw3 _ (by omega) (by omega) (by omega), z64, Int64.add_zero]
  · have h := e7_of (i := 4) h0 (by omega) rfl (by decide) (h.2 c)
    rw [rw3 _ (by omega) (by omega) (by omega)] at h
    obtain ⟨u4, h, f4, g4⟩ := e7_sets (i := 4) h0 (by omega) rfl (by decide) h
    unfold SR ST
    rw [if_neg c]
    refine ⟨u4, h, FN_tr f3 f4, fun i a b => ?_, ?_, ?_, ?_, ?_, ?_, ?_, ?_, ?_, ?_, ?_⟩
    · rw [g4, uL_n (by omega)]
      exact rw3 i (by omega) (by omega) (by omega)
    · rw [g4, uL_n (by omega)]
      exact rw3 _ (by omega) (by omega) (by omega)
    · rw [g4, uL_n (by omega)]
      exact rw3 _ (by omega) (by omega) (by omega)
    · rw [g4, uL_n (by omega)]
      exact rw3 _ (by omega) (by omega) (by omega)
    · rw [g4, uL_n (by omega), rw3 _ (by omega) (by omega) (by omega)]
    · rw [g4, uL_n (by omega), v2, t32_64]
    · rw [g4, uL_e, t32_64]
    · rw [g4, uL_n (by omega), v5, t32_64]
    · rw [g4, uL_n (by omega), rw3 _ (by omega) (by omega) (by omega), Int32.add_zero]
    · rw [g4, uL_n (by omega)]
      exact v6
    · rw [g4, uL_n (by omega), rw3 _ (by omega) (by omega) (by omega), z64, Int64.add_zero]
/-- a step on both sides -/
theorem sm_step {P6 : Int32 → Bd → Prop} {P7 : Md → Prop} {b : Bd} {v : Md} {x : Int32} {N R W D : Int} (hM : mb N R W D v) (hD : 0 < D) (hB : RB b (v.2.2.1 0)) (h0 : 0 ≤ x.toInt) (h1 : x.toInt < R * W) (h6 : wp_X0_stepOn P6 b x) (h7 : wp_X7_steps P7 v x) : ∃ r b' v', P6 r b' ∧ P7 v' ∧ RB b' (v'.2.2.1 0) ∧ mb N R W D v' ∧ FN v v' ∧ (∃ F, SR (v.2.2.1 0) (v'.2.2.1 0) x.toInt.toNat F) ∧ v'.2.2.1 0 7 = v.2.2.1 0 7 + Int32.toInt64 r := by
  have hf := hM.2.2.2.2.1
  have hR := hf.2.2.2.2.2.1
  have h7 := dt_conj (dt_X7_steps v x) h7 (wq_X7_steps (post := fun u => mb N R W D u) hM ⟨h0, by omega⟩ hD (fun u a _ _ _ => a))
  obtain ⟨F7, e7, v', ⟨h7, m7⟩, f7, sr⟩ := e7_steps hf hD h0 h1 h7
  obtain ⟨F6, e6, b', h6, k1, k2, k3, k4, k5, k6, k7, k8, k9⟩ := e0_stepOn hf hD hB h0 h1 h6
  have eF : F6 = F7 := Int32.toInt_inj.mp (e6.trans e7.symm)
  subst eF
  have at_ := RB_x (c := x.toInt.toNat) hf hB (by omega)
  have sr0 := sr
  obtain ⟨s1, s2, s3, s4, s5, s6, s7, s8, s9, s10, s11⟩ := sr
  rw [at_.2.1, at_.2.2.1, at_.2.2.2.2.1] at h6 k5 k6 k7 k9
  refine ⟨_, b', v', h6, h7, ?_, m7, f7, ⟨F6, sr0⟩, s11⟩
  refine RB_c7 (c := x.toInt.toNat) hB (fun k _ => by rw [k1]) ⟨k3 0 (by omega), k3 1 (by omega), k3 2 (by omega)⟩ (fun j hj i hi => k4 _ i hi) (fun i hi => by rw [k2]) (fun i a b => s1 i (by omega) (by omega)) ⟨fun j hj => ?_, ?_⟩
  · rcases (show j = 0 ∨ j = 1 ∨ j = 2 ∨ j = 3 ∨ j = 4 ∨ j = 5 ∨ j = 6 by omega) with rfl | rfl | rfl | rfl | rfl | rfl | rfl
    · rw [k3 (3 + 0) (by omega), s2]
      exact at_.1
    · rw [s5]
      exact k5
    · rw [s6]
      exact k6
    · rw [k3 (3 + 3) (by omega), s3]
      exact at_.2.2.2.1
    · rw [s7]
      exact k7
    · rw [s8, ← at_.2.2.2.2.2.1]
      exact k8
    · rw [s9, ← at_.2.2.2.2.2.2.1]
      exact k9
  · rw [k2, s4]
    exact ⟨at_.2.2.2.2.2.2.2, RB_w (c := x.toInt.toNat) hf hB (by omega)⟩
