theorem rw_dw {R W D : Int} {f : Nat → Int64} {d : Nat} {v : Int64} (hf : rw_ok R W D f) (hd : D ≤ (d : Int)) (h4 : d < 4) : rw_ok R W D (vp_updL f (8 + 42 * d + 1) v) := by
  obtain ⟨a0, a1, a2, a3, a4, a5, a6, a7⟩ := hf
  have hc : ∀ c j, c_f (vp_updL f (8 + 42 * d + 1) v) c j = c_f f c j := fun c j => c_ne (by omega)
  refine ⟨by rw [ul_ne (by omega)]; exact a0, by rw [ul_ne (by omega)]; exact a1, by rw [ul_ne (by omega)]; exact a2, by rw [ul_ne (by omega)]; exact a3, by rw [ul_ne (by omega)]; exact a4, a5, fun d2 hD => by rw [d_ne (by omega)]; exact a6 d2 hD, fun c h2 => ?_⟩
  obtain ⟨q1, q2, q3⟩ := a7 c h2
  unfold rw_c
  rw [hc c 0, hc c 1, hc c 2, hc c 3, hc c 4]
  refine ⟨q1, q2, fun g => ?_⟩
  have := q3 g
  rw [d_ne (by omega)]
  exact this
theorem rw_add {R W D : Int} {f : Nat → Int64} {v : Int64} (hf : rw_ok R W D f) (h2 : 2 ≤ d_f f D.toNat ∧ d_f f D.toNat ≤ 40) (hD : D < 4) (hl : 1 ≤ (f 2).toInt) (hR : 1 ≤ R) (hv : v.toInt = D + 1) : rw_ok R W (D + 1) (vp_updL f 3 v) := by
  obtain ⟨a0, a1, a2, a3, a4, a5, a6, a7⟩ := hf
  have hc : ∀ c j, c_f (vp_updL f 3 v) c j = c_f f c j := fun c j => c_ne (by omega)
  have hd : ∀ d, d_f (vp_updL f 3 v) d = d_f f d := fun d => d_ne (by omega)
  refine ⟨by rw [ul_ne (by omega)]; exact a0, by rw [ul_ne (by omega)]; exact a1, by rw [ul_at]; exact hv, by rw [ul_ne (by omega)]; exact Or.inr hl, by rw [ul_ne (by omega)]; exact a4, by omega, fun d2 h3 => ?_, fun c h3 => ?_⟩
  · rw [hd]
    by_cases e : (d2 : Int) < D
    · exact a6 d2 e
    · have e2 : d2 = D.toNat := by omega
      rw [e2]
      exact h2
  · obtain ⟨q1, q2, q3⟩ := a7 c h3
    unfold rw_c
    rw [hc c 0, hc c 1, hc c 2, hc c 3, hc c 4, hd]
    refine ⟨q1, fun g => by omega, fun g => ?_⟩
    by_cases e : D ≤ 0
    · have z := q2 e
      have e2 : D.toNat = (c_f f c 0).toNat := by omega
      rw [e2] at h2
      omega
    · have z := q3 (by omega)
      omega
theorem lim_e {s t : Md} (e : t.2 = s.2) (h : 1 ≤ ((s.2.2.1 0) 2).toInt) : 1 ≤ ((t.2.2.1 0) 2).toInt := by
  rw [e]
  exact h
theorem mb_lim {N R W D : Int} {s : Md} (h : mb N R W D s) (hD : 0 < D) : 1 ≤ (s.2.2.1 0 2).toInt := by
  have := h.2.2.2.2.1.2.2.2.1
  omega
theorem mb_nowD {N R W D D2 : Int} {s t : Md} (h : mb N R W D s) (h5 : t.1 5 = s.1 5) (h0 : t.1 0 = s.1 0) (h2 : ∀ k, ¬ k = 0 → t.2.2.1 k = s.2.2.1 k) (h3 : t.2.2.2 0 = s.2.2.2 0) {R2 W2 : Int} (hr : rw_ok R2 W2 D2 (t.2.2.1 0)) : mb N R2 W2 D2 t := by
  obtain ⟨a0, a1, a2, a3, a4, a5, a6, a7⟩ := h
  refine ⟨by rw [h5]; exact a0, by rw [h0]; exact a1, a2, hr.2.2.2.2.2.1, hr, fun k hk => ?_, fun k hk => ?_, by rw [h2 3 (by decide)]; exact a7⟩
  · rw [h2 1 (by decide)]
    rw [h0] at hk
    exact a5 k hk
  · rw [h2 2 (by decide), h3]
    exact a6 k hk
theorem wq_X7_readsDrum_L91 {post : Int32 → Md → Prop} {e127 : Md → Int32 → Int32 → Int32 → Prop} {s : Md} {z1 z2 : Int32} {N R W D : Int} (hd : 0 ≤ D ∧ D < 4) (hz : z2.toInt = 8 + 42 * D) (hq : 0 ≤ (s.1 10).toInt ∧ 0 ≤ (s.1 11).toInt ∧ (s.1 11).toInt ≤ 40 ∧ (s.1 10).toInt + (s.1 11).toInt ≤ 400) (ke : ∀ (t : Md) (z3 : Int32), mb N R W D t → t.1 = s.1 → d_f (t.2.2.1 0) D.toNat = d_f (s.2.2.1 0) D.toNat → t.2.2.1 0 2 = s.2.2.1 0 2 → t.2.2.1 0 3 = s.2.2.1 0 3 → e127 t z1 z2 z3) : ∀ (n : Nat) (t : Md) (z3 : Int32), mb N R W D t → t.1 = s.1 → d_f (t.2.2.1 0) D.toNat = d_f (s.2.2.1 0) D.toNat → t.2.2.1 0 2 = s.2.2.1 0 2 → t.2.2.1 0 3 = s.2.2.1 0 3 → 0 ≤ z3.toInt ∧ z3.toInt ≤ 40 → 40 - z3.toInt < (n : Int) → wp_X7_readsDrum_L91 post e127 n t z1 z2 z3 := by
  have e1 : (1 : Int32).toInt = 1 := rfl
  have e2 : (2 : Int32).toInt = 2 := rfl
  intro n
  induction n with
  | zero =>
    intro t z3 _ _ _ _ _ _ _
    exfalso
    omega
  | succ n ih =>
    intro t z3 h b1 b2 b3 b4 i2 i3
    unfold wp_X7_readsDrum_L91
    refine ⟨fun c => ke t z3 h b1 b2 b3 b4, fun c => ?_⟩
    have c2 := q_nle c
    have t10 : (t.1 10).toInt = (s.1 10).toInt := by rw [b1]
    have t11 : (t.1 11).toInt = (s.1 11).toInt := by rw [b1]
    have s1 := nw (tq_addr e1 z3) (by omega)
    have m1 := nw (tq_add (t.1 10) z3) (by omega)
    have m2 := nw (tq_addr e2 z2) (by omega)
    have m3 := nw (tq_add (z2 + 2) z3) (by omega)
    have ix : Int32.toNatClampNeg ((z2 + 2) + z3) = ((z2 + 2) + z3).toInt.toNat := tn_i _
    have irr : ¬ rw_rel (Int32.toNatClampNeg ((z2 + 2) + z3)) := by
      rw [ix]
      unfold rw_rel
      omega
    refine ⟨vi (by omega) (by omega), vi (by omega) (by omega), ih _ _ (mb_6 h irr) b1 ?_ ?_ ?_ (by omega) (by omega)⟩
    · show d_f (vp_updL (t.2.2.1 0) (Int32.toNatClampNeg ((z2 + 2) + z3)) _) D.toNat = _
      rw [d_ne (by rw [ix]; omega)]
      exact b2
    · show vp_updL (t.2.2.1 0) (Int32.toNatClampNeg ((z2 + 2) + z3)) _ 2 = _
      rw [ul_ne (by rw [ix]; omega)]
      exact b3
    · show vp_updL (t.2.2.1 0) (Int32.toNatClampNeg ((z2 + 2) + z3)) _ 3 = _
      rw [ul_ne (by rw [ix]; omega)]
      exact b4
theorem wq_X7_readsDrum {post : Int32 → Md → Prop} {s0 : Md} {N R W D : Int} (h : mb N R W D s0) (hR : 1 ≤ R) (hl : 1 ≤ (s0.2.2.1 0 2).toInt) (h6 : 0 ≤ (s0.1 6).toInt ∧ (s0.1 6).toInt + 4 ≤ N) (k : ∀ (r : Int32) (u : Md) (D4 : Int), mb N R W D4 u → (r.toInt = 0 ∨ r.toInt = 1) → (s0.1 6).toInt ≤ (u.1 6).toInt ∧ (u.1 6).toInt ≤ N → (r.toInt = 0 ∨ 0 < D4) → post r u) : wp_X7_readsDrum post s0 := by
  unfold wp_X7_readsDrum
  have e0 : (0 : Int32).toInt = 0 := rfl
  have e1 : (1 : Int32).toInt = 1 := rfl
  have e4 : (4 : Int32).toInt = 4 := rfl
  have e2 : (2 : Int32).toInt = 2 := rfl
  have e40 : (40 : Int32).toInt = 40 := rfl
  have pd := h.2.2.2.1
  have pn := h.2.2.1
  refine wq_X7_drums h (fun r1 a1 => ⟨fun c => ?_, fun c => ?_⟩)
  · have c2 := q_neq c
    have s6 := nw (tq_addr e4 (s0.1 6)) (by omega)
    have e6 : (((va_up s0.1 6 ((s0.1 6) + 4)), s0.2.1, s0.2.2.1, s0.2.2.2) : Md).1 6 = s0.1 6 + 4 := rfl
    refine wq_X7_readsNumber (N := N) (R := R) (W := W) (D := D) (mb_i h rfl rfl rfl) (by rw [e6]; omega) (fun r4 u5 h5 j5 b5 s5 n5 x5 => ⟨fun c3 => ?_, fun c3 => k _ _ D h5 (Or.inl e0) (by rw [e6] at s5; omega) (Or.inl e0)⟩)
    rw [e6] at s5
    refine wq_X7_readsQuoted h5 (by omega) (by omega) (fun r7 u8 h8 j8 b8 s8 n8 x8 => ⟨fun c4 => ?_, fun c4 => k _ _ D h8 (Or.inl e0) (by omega) (Or.inl e0)⟩)
    have c5 := q_neq c4
    have n9 : 0 ≤ (u8.1 10).toInt ∧ 0 ≤ (u8.1 11).toInt ∧ (u8.1 10).toInt + (u8.1 11).toInt ≤ N ∧ 2 ≤ (u8.1 11).toInt ∧ (u8.1 11).toInt ≤ 40 := by omega
    refine wq_X7_drums h8 (fun r10 a10 => ?_)
    have i1 := ix_d (x := r10) (by omega)
    have i2 := ix_d1 (x := r10) (by omega)
    refine ⟨vi (by omega) (by omega), vi (by omega) (by omega), ?_⟩
    have row2 : u8.2 = s0.2 := x8.trans x5
    have r2e : u8.2.2.1 0 2 = s0.2.2.1 0 2 := by rw [row2]
    have r3e : (u8.2.2.1 0 3).toInt = D := h8.2.2.2.2.1.2.2.1
    have dN : r10.toInt.toNat = D.toNat := by rw [a10]
    generalize hv1 : Int32.toInt64 (u5.1 8) = v1
    have v2i := tq_64 (u8.1 11)
    generalize hv2 : Int32.toInt64 (u8.1 11) = v2 at v2i
    rw [i1.1, i2.1, dN]
    have irr1 : ¬ rw_rel (8 + 42 * D.toNat) := by
      unfold rw_rel
      omega
    have rT : rw_ok R W D (vp_updL (vp_updL (u8.2.2.1 0) (8 + 42 * D.toNat) v1) (8 + 42 * D.toNat + 1) v2) := rw_dw (rw_irr h8.2.2.2.2.1 irr1) (by omega) (by omega)
    have hT : mb N R W D (u8.1, u8.2.1, (va_up u8.2.2.1 0 (vp_updL (vp_updL (u8.2.2.1 0) (8 + 42 * D.toNat) v1) (8 + 42 * D.toNat + 1) v2)), u8.2.2.2) := mb_now h8 rfl (fun k hk => by
      show (if k = 0 then _ else u8.2.2.1 k) = _
      rw [if_neg hk]) rfl rT
    obtain ⟨nf, hf⟩ := fu_e 50
    refine ⟨nf, wq_X7_readsDrum_L91 (s := (u8.1, u8.2.1, (va_up u8.2.2.1 0 (vp_updL (vp_updL (u8.2.2.1 0) (8 + 42 * D.toNat) v1) (8 + 42 * D.toNat + 1) v2)), u8.2.2.2)) (D := D) (by omega) (by omega) ⟨n9.1, n9.2.1, n9.2.2.2.2, (by show (u8.1 10).toInt + (u8.1 11).toInt ≤ 400; omega)⟩ (fun t z3 ht b1 b2 b3 b4 => ?_) nf _ 0 hT rfl rfl rfl rfl (by omega) (by omega)⟩
    have d2 : d_f (t.2.2.1 0) D.toNat = v2.toInt := by
      rw [b2]
      show (vp_updL _ (8 + 42 * D.toNat + 1) v2 (8 + 42 * D.toNat + 1)).toInt = _
      rw [ul_at]
    have q2 : t.2.2.1 0 2 = s0.2.2.1 0 2 := by
      rw [b3]
      show vp_updL (vp_updL (u8.2.2.1 0) (8 + 42 * D.toNat) v1) (8 + 42 * D.toNat + 1) v2 2 = _
      rw [ul_ne (by omega), ul_ne (by omega)]
      exact r2e
    have q3 : ((t.2.2.1 0) (Int32.toNatClampNeg 3) + 1).toInt = D + 1 := by
      have e3 : (t.2.2.1 0 3).toInt = D := ht.2.2.2.2.1.2.2.1
      show (t.2.2.1 0 3 + 1).toInt = D + 1
      have l1 : (1 : Int64).toInt = 1 := rfl
      rw [Int64.toInt_add, l1, e3]
      have : (2 ^ 64 : Nat) = 18446744073709551616 := by decide
      rw [this]
      unfold Int.bmod
      dsimp only
      split <;> omega
    have hfin : mb N R W (D + 1) (t.1, t.2.1, (va_up t.2.2.1 0 (vp_updL (t.2.2.1 0) (Int32.toNatClampNeg 3) ((t.2.2.1 0) (Int32.toNatClampNeg 3) + 1))), t.2.2.2) := mb_nowD (t := (t.1, t.2.1, (va_up t.2.2.1 0 (vp_updL (t.2.2.1 0) (Int32.toNatClampNeg 3) ((t.2.2.1 0) (Int32.toNatClampNeg 3) + 1))), t.2.2.2)) ht rfl rfl (fun j hj => by
      show (if j = 0 then _ else t.2.2.1 j) = _
      rw [if_neg hj]) rfl (rw_add ht.2.2.2.2.1 (by omega) (by omega) (by rw [q2]; exact hl) hR q3)
    refine k _ _ (D + 1) hfin (Or.inr e1) ?_ (Or.inr (by omega))
    · show (s0.1 6).toInt ≤ (t.1 6).toInt ∧ (t.1 6).toInt ≤ N
      rw [b1]
      show (s0.1 6).toInt ≤ (u8.1 6).toInt ∧ (u8.1 6).toInt ≤ N
      omega
  · refine wq_X7_fails h (fun r u hu ju a b => ⟨nb_b (by omega), k _ _ D hu (by omega) ?_ (Or.inl (by omega))⟩)
    have := ie_i ju 6 (by decide)
    omega
theorem wq_X7_readsCells_L78 {post : Int32 → Md → Prop} {e99 : Md → Int32 → Int32 → Int32 → Int32 → Prop} {s : Md} {z1 z2 z3 : Int32} (hx : 0 ≤ z3.toInt ∧ z3.toInt < 40) (ke : ∀ (t : Md) (z4 : Int32), t.1 = s.1 → (∀ k, ¬ k = 0 → t.2.2.1 k = s.2.2.1 k) → t.2.2.2 = s.2.2.2 → (∀ i, ¬ (176 + 8 * z3.toInt.toNat ≤ i ∧ i < 176 + 8 * z3.toInt.toNat + 8) → t.2.2.1 0 i = s.2.2.1 0 i) → (∀ j, j < 8 → t.2.2.1 0 (176 + 8 * z3.toInt.toNat + j) = 0) → e99 t z1 z2 z3 z4) : ∀ (n : Nat) (t : Md) (z4 : Int32), t.1 = s.1 → (∀ k, ¬ k = 0 → t.2.2.1 k = s.2.2.1 k) → t.2.2.2 = s.2.2.2 → (∀ i, ¬ (176 + 8 * z3.toInt.toNat ≤ i ∧ i < 176 + 8 * z3.toInt.toNat + 8) → t.2.2.1 0 i = s.2.2.1 0 i) → (∀ j : Nat, (j : Int) < z4.toInt → t.2.2.1 0 (176 + 8 * z3.toInt.toNat + j) = 0) → 0 ≤ z4.toInt ∧ z4.toInt ≤ 8 → 8 - z4.toInt < (n : Int) → wp_X7_readsCells_L78 post e99 n t z1 z2 z3 z4 := by
  have e1 : (1 : Int32).toInt = 1 := rfl
  have e8 : (8 : Int32).toInt = 8 := rfl
  intro n
  induction n with
  | zero =>
    intro t z4 _ _ _ _ _ _ _
    exfalso
    omega
  | succ n ih =>
    intro t z4 a1 a2 a3 a4 a5 i2 i3
    unfold wp_X7_readsCells_L78
    refine ⟨fun c => ke t z4 a1 a2 a3 a4 (fun j hj => a5 j (by have := q_le c; omega)), fun c => ?_⟩
    have c2 := q_nle c
    have s1 := nw (tq_addr e1 z4) (by omega)
    have ix := ix_c (w := z4) hx (by omega)
    unfold wp_X7_sets
    rw [ix.1]
    refine ⟨vi (by omega) (by omega), ih _ _ a1 (fun k hk => ?_) a3 (fun i hi => ?_) (fun j hj => ?_) (by omega) (by omega)⟩
    · show (if k = 0 then _ else t.2.2.1 k) = _
      rw [if_neg hk]
      exact a2 k hk
    · show vp_updL (t.2.2.1 0) (176 + 8 * z3.toInt.toNat + z4.toInt.toNat) 0 i = _
      rw [ul_ne (by omega)]
      exact a4 i hi
    · show vp_updL (t.2.2.1 0) (176 + 8 * z3.toInt.toNat + z4.toInt.toNat) 0 (176 + 8 * z3.toInt.toNat + j) = 0
      by_cases e : j = z4.toInt.toNat
      · rw [e, ul_at]
      · rw [ul_ne (by omega)]
        exact a5 j (by omega)
theorem wq_X7_readsCells_L70 {post : Int32 → Md → Prop} {e116 : Md → Int32 → Int32 → Int32 → Prop} {N R W D : Int} {A : Nat → Int32} (hD : 0 < D) (ke : ∀ (t0 : Md) (z1 z2 z3 : Int32), mb N R W D t0 → ie [] t0.1 A → 0 ≤ z3.toInt ∧ z3.toInt ≤ z2.toInt + 1 ∧ z2.toInt ≤ 39 → 0 ≤ (t0.1 8).toInt ∧ (t0.1 8).toInt < D → e116 t0 z1 z2 z3) : ∀ (n : Nat) (t0 : Md) (z1 z2 z3 : Int32), mb N R W D t0 → ie [] t0.1 A → 0 ≤ z3.toInt ∧ z3.toInt ≤ z2.toInt + 1 ∧ z2.toInt ≤ 39 → 0 ≤ (t0.1 8).toInt ∧ (t0.1 8).toInt < D → z2.toInt - z3.toInt + 1 < (n : Int) → wp_X7_readsCells_L70 post e116 n t0 z1 z2 z3 := by
  have e0 : (0 : Int32).toInt = 0 := rfl
  have e1 : (1 : Int32).toInt = 1 := rfl
  intro n
  induction n with
  | zero =>
    intro t z1 z2 z3 _ _ _ _ _
    exfalso
    omega
  | succ n ih =>
    intro t z1 z2 z3 h j i1 i2 i3
    unfold wp_X7_readsCells_L70
    refine ⟨fun c => ke t z1 z2 z3 h j i1 i2, fun c => ?_⟩
    have c2 := q_nlt c
    have pd := h.2.2.2.1
    have s1 := nw (tq_addr e1 z3) (by omega)
    obtain ⟨nf, hf⟩ := fu_e 50
    refine ⟨nf, wq_X7_readsCells_L78 (s := t) (by omega) (fun u z4 b1 b2 b3 b4 b5 => ?_) nf t 0 rfl (fun _ _ => rfl) rfl (fun _ _ => rfl) (fun k hk => by omega) (by omega) (by omega)⟩
    have u8 : (u.1 8).toInt = (t.1 8).toInt := by rw [b1]
    have ix := ix_c (x := z3) (w := 0) (by omega) (by omega)
    have iz : Int32.toNatClampNeg ((176 + (8 * z3)) + (0 : Int32)) = 176 + 8 * z3.toInt.toNat + 0 := ix.1
    have v := tq_64 (u.1 8)
    unfold wp_X7_sets
    rw [iz]
    generalize Int32.toInt64 (u.1 8) = w at v ⊢
    have hz : ∀ jj, 1 ≤ jj → jj ≤ 4 → c_f (vp_updL (u.2.2.1 0) (176 + 8 * z3.toInt.toNat + 0) w) z3.toInt.toNat jj = 0 := fun jj g1 g2 => by
      rw [c_ne (by omega)]
      unfold c_f
      rw [b5 jj (by omega)]
      rfl
    have hz0 : c_f (vp_updL (u.2.2.1 0) (176 + 8 * z3.toInt.toNat + 0) w) z3.toInt.toNat 0 = w.toInt := c_at
    have rr : rw_ok R W D (vp_updL (u.2.2.1 0) (176 + 8 * z3.toInt.toNat + 0) w) := by
      refine rw_cellG (c := z3.toInt.toNat) h.2.2.2.2.1 (fun i _ hn => ?_) (fun l => ?_)
      · rw [ul_ne (by omega)]
        exact b4 i hn
      · unfold rw_c
        rw [hz 1 (by omega) (by omega), hz 2 (by omega) (by omega), hz 3 (by omega) (by omega), hz 4 (by omega) (by omega), hz0]
        have dd : d_f (vp_updL (u.2.2.1 0) (176 + 8 * z3.toInt.toNat + 0) w) w.toInt.toNat = d_f (t.2.2.1 0) w.toInt.toNat := by
          rw [d_ne (by omega)]
          unfold d_f
          rw [b4 _ (by omega)]
        rw [dd]
        have := h.2.2.2.2.1.2.2.2.2.2.2.1 w.toInt.toNat (by omega)
        refine ⟨by omega, fun g => by omega, fun g => by omega⟩
    refine ⟨vi (by omega) (by omega), ih _ _ _ _ (mb_nowD h (by show u.1 5 = _; rw [b1]) (by show u.1 0 = _; rw [b1]) (fun k hk => ?_) (by show u.2.2.2 0 = _; rw [b3]) rr) (by show ie [] u.1 A; rw [b1]; exact j) (by omega) (by show 0 ≤ (u.1 8).toInt ∧ (u.1 8).toInt < D; omega) (by omega)⟩
    show (if k = 0 then _ else u.2.2.1 k) = _
    rw [if_neg hk]
    exact b2 k hk
theorem wq_X7_readsCells {post : Int32 → Md → Prop} {s0 : Md} {N R W D : Int} (h102932 : mb (N) (R) (W) (D) s0) (h102933 : 0 < D) (h102934 : 0 ≤ (s0.1 6).toInt ∧ (s0.1 6).toInt + 5 ≤ N) (k : ∀ (r : Int32) (u : Md), mb (N) (R) (W) (D) u → ie [1, 2, 6, 7, 8, 9, 10, 11, 12, 13] u.1 s0.1 → (r).toInt = 0 ∨ (r).toInt = 1 → (s0.1 6).toInt ≤ (u.1 6).toInt ∧ (u.1 6).toInt ≤ N → post r u) : wp_X7_readsCells post s0 := by
  unfold wp_X7_readsCells
  have := h102932.1
  have := h102932.2.1
  have := h102932.2.2.1
  have := h102932.2.2.2.1
  have p102935 : (s0.1 5).toInt = N := by omega
  have p102936 : 0 ≤ (s0.1 0).toInt ∧ (s0.1 0).toInt ≤ 10 := by omega
  have p102937 : 0 ≤ N ∧ N ≤ 400 := by omega
  have p102938 : 0 ≤ R ∧ R ≤ 6 ∧ 0 ≤ W ∧ W ≤ 10 ∧ 0 ≤ R * W ∧ R * W ≤ 40 ∧ 0 ≤ D ∧ D ≤ 4 ∧ (D ≤ 0 ∨ 1 ≤ R) ∧ (1 ≤ R ∨ R * W = 0) := by omega
  have B102939 : mb (N) (R) (W) (D) ((va_up s0.1 6 ((s0.1 6) + 5)), s0.2.1, s0.2.2.1, s0.2.2.2) := ⟨p102935, p102936, p102937, p102938, h102932.2.2.2.2.1, h102932.2.2.2.2.2.1, h102932.2.2.2.2.2.2.1, h102932.2.2.2.2.2.2.2⟩
  refine wq_X7_cells B102939 (fun r_1 q102940 => ?_)
  replace q102940 : (r_1).toInt = R * W := q102940
  have e102941 := tq_addr li_5 (s0.1 6)
  try rw [Int.emod_eq_of_lt (show 0 ≤ (s0.1 6).toInt + 5 + 2147483648 by omega) (show (s0.1 6).toInt + 5 + 2147483648 < 4294967296 by omega)] at e102941
  have p102942 : 0 ≤ ((s0.1 6) + 5).toInt ∧ ((s0.1 6) + 5).toInt ≤ N := by omega
  refine wq_X7_readsNumber B102939 p102942 (fun r_3 u_4 q102943 q102944 q102945 q102946 q102947 q102948 => ?_)
  have := q102943.1
  have := q102943.2.1
  replace q102945 : (r_3).toInt = 0 ∨ (r_3).toInt = 1 := q102945
  replace q102946 : ((s0.1 6) + 5).toInt ≤ (u_4.1 6).toInt ∧ (u_4.1 6).toInt ≤ N := q102946
  replace q102947 : (r_3).toInt = 0 ∨ (((0 : Int32)).toInt ≤ (u_4.1 8).toInt ∧ (u_4.1 8).toInt ≤ (r_1 - 1).toInt) := q102947
  try simp only [li_0] at q102947
  have e102949 := tq_subr li_1 r_1
  try rw [Int.emod_eq_of_lt (show 0 ≤ (r_1).toInt - 1 + 2147483648 by omega) (show (r_1).toInt - 1 + 2147483648 < 4294967296 by omega)] at e102949
  refine ⟨fun c102950 => ?_, fun c102951 => ?_⟩
  · replace c102950 := q_neq c102950
    rw [li_0] at c102950
    refine wq_X7_cells q102943 (fun r_6 q102952 => ?_)
    have p102953 : 0 ≤ (u_4.1 6).toInt ∧ (u_4.1 6).toInt ≤ N := by omega
    refine wq_X7_readsNumber q102943 p102953 (fun r_8 u_9 q102954 q102955 q102956 q102957 q102958 q102959 => ?_)
    have := q102954.1
    have := q102954.2.1
    have e102960 := tq_subr li_1 r_6
    try rw [Int.emod_eq_of_lt (show 0 ≤ (r_6).toInt - 1 + 2147483648 by omega) (show (r_6).toInt - 1 + 2147483648 < 4294967296 by omega)] at e102960
    refine ⟨fun c102961 => ?_, fun c102962 => ?_⟩
    · replace c102961 := q_neq c102961
      rw [li_0] at c102961
      refine wq_X7_drums q102954 (fun r_11 q102963 => ?_)
      have p102964 : 0 ≤ (u_9.1 6).toInt ∧ (u_9.1 6).toInt ≤ N := by omega
      refine wq_X7_readsNumber q102954 p102964 (fun r_13 u_14 q102965 q102966 q102967 q102968 q102969 q102970 => ?_)
      have := q102965.1
      have := q102965.2.1
      try simp only [li_0] at q102969
      have e102971 := tq_subr li_1 r_11
      try rw [Int.emod_eq_of_lt (show 0 ≤ (r_11).toInt - 1 + 2147483648 by omega) (show (r_11).toInt - 1 + 2147483648 < 4294967296 by omega)] at e102971
      refine ⟨fun c102972 => ?_, fun c102973 => ?_⟩
      · replace c102972 := q_neq c102972
        rw [li_0] at c102972
        have p102974 : 0 < D := by omega
        have p102975 : ie [] u_14.1 u_14.1 := (ie_refl _ _)
        have p102976 : 0 ≤ (u_4.1 8).toInt ∧ (u_4.1 8).toInt ≤ (u_9.1 8).toInt + 1 ∧ (u_9.1 8).toInt ≤ 39 := by omega
        have p102977 : 0 ≤ (u_14.1 8).toInt ∧ (u_14.1 8).toInt < D := by omega
        obtain ⟨f102978, g102979⟩ := fu_e 50
        have p102980 : (u_9.1 8).toInt - (u_4.1 8).toInt + 1 < (f102978 : Int) := by (omega)
        refine ⟨f102978, wq_X7_readsCells_L70 p102974 (fun t0 z1 z2 z3 q102981 q102982 q102983 q102984 => ?_) f102978 _ _ _ _ q102965 p102975 p102976 p102977 p102980⟩
        have := q102981.1
        have := q102981.2.1
        have : (t0.1 8).toInt = (u_14.1 8).toInt := ie_i q102982 8 (by decide)
        have p102985 : ie [1, 2, 6, 7, 8, 9, 10, 11, 12, 13] t0.1 s0.1 := (ie_tr q102982 (by decide) (ie_tr q102966 (by decide) (ie_tr q102955 (by decide) (ie_tr q102944 (by decide) (ie_up (ie_refl _ _) (by decide))))))
        have p102986 : (1 : Int32).toInt = 0 ∨ (1 : Int32).toInt = 1 := by (have := li_1; omega)
        have : (t0.1 6).toInt = (u_14.1 6).toInt := ie_i q102982 6 (by decide)
        have p102987 : (s0.1 6).toInt ≤ (t0.1 6).toInt ∧ (t0.1 6).toInt ≤ N := by omega
        exact k _ _ q102981 p102985 p102986 p102987
      · replace c102973 := q_eq c102973
        rw [li_0] at c102973
        have p102988 : ie [1, 2, 6, 7, 8, 9, 10, 11, 12, 13] u_14.1 s0.1 := (ie_tr q102966 (by decide) (ie_tr q102955 (by decide) (ie_tr q102944 (by decide) (ie_up (ie_refl _ _) (by decide)))))
        have p102989 : (0 : Int32).toInt = 0 ∨ (0 : Int32).toInt = 1 := by (have := li_0; omega)
        have p102990 : (s0.1 6).toInt ≤ (u_14.1 6).toInt ∧ (u_14.1 6).toInt ≤ N := by omega
        exact k _ _ q102965 p102988 p102989 p102990
    · replace c102962 := q_eq c102962
      rw [li_0] at c102962
      have p102991 : ie [1, 2, 6, 7, 8, 9, 10, 11, 12, 13] u_9.1 s0.1 := (ie_tr q102955 (by decide) (ie_tr q102944 (by decide) (ie_up (ie_refl _ _) (by decide))))
      have p102992 : (0 : Int32).toInt = 0 ∨ (0 : Int32).toInt = 1 := by (have := li_0; omega)
      have p102993 : (s0.1 6).toInt ≤ (u_9.1 6).toInt ∧ (u_9.1 6).toInt ≤ N := by omega
      exact k _ _ q102954 p102991 p102992 p102993
  · replace c102951 := q_eq c102951
    rw [li_0] at c102951
    have p102994 : ie [1, 2, 6, 7, 8, 9, 10, 11, 12, 13] u_4.1 s0.1 := (ie_tr q102944 (by decide) (ie_up (ie_refl _ _) (by decide)))
    have p102995 : (0 : Int32).toInt = 0 ∨ (0 : Int32).toInt = 1 := by (have := li_0; omega)
    have p102996 : (s0.1 6).toInt ≤ (u_4.1 6).toInt ∧ (u_4.1 6).toInt ≤ N := by omega
    exact k _ _ q102943 p102994 p102995 p102996
theorem isw_s {post : Int32 → Md → Prop} {s0 : Md} {i1 : Nat} {N R W D : Int} (h : mb N R W D s0) (h6 : 0 ≤ (s0.1 6).toInt ∧ (s0.1 6).toInt ≤ N) (hi : 1 ≤ ln i1 ∧ ln i1 ≤ 9) (nb : ¬ tb7 s0 (s0.1 6) = 32) (k1 : ∀ r : Int32, r.toInt = 1 → wd_y s0 i1 → (s0.1 6).toInt + ln i1 ≤ N → post r s0) (k0 : ∀ r : Int32, r.toInt = 0 → ¬ wd_y s0 i1 → post r s0) : wp_X7_isWord post s0 i1 := by
  refine wq_X7_isWord h h6 hi (fun r u hu ju b s n e x => ?_)
  have eq := x.2.2 nb
  subst eq
  rcases x.1 with g | g
  · exact k1 r g.1 g.2 (by omega)
  · exact k0 r g.1 g.2
theorem rp_b {post : Int32 → Md → Prop} {u : Md} {N R W D : Int} (h : mb N R W D u) (h6 : 0 ≤ (u.1 6).toInt ∧ (u.1 6).toInt ≤ N) (nb : ¬ tb7 u (u.1 6) = 32) (hw : (u.1 6).toInt + 4 ≤ N ∨ (wd_y u 3 ∨ wd_y u 4 ∨ wd_y u 5)) (hR : 1 ≤ R) (k : ∀ (r : Int32) (v : Md) (D4 : Int), mb N R W D4 v → (r.toInt = 0 ∨ r.toInt = 1) → (u.1 6).toInt ≤ (v.1 6).toInt ∧ (v.1 6).toInt ≤ N → (r.toInt = 0 ∨ 0 < D4) → post r v) : wp_X7_drums (fun r_7 => ((¬ (r_7 = 0)) → (wp_X7_isWord (fun r_10 u_11 => ((r_10 = 0) → (wp_X7_isWord (fun r_13 u_14 => ((r_13 = 0) → (wp_X7_isWord (fun r_16 u_17 => ((r_16 = 0) → (wp_X7_readsLose (fun r_19 u_20 => ((¬ (r_19 = 0)) → (wp_X7_sets (fun u_23 => post 1 u_23) u_20 (u_20.1 12) (4 : Int32) (Int32.toInt64 (u_20.1 8)))) ∧ ((r_19 = 0) → (post 0 u_20))) u_17)) ∧ ((¬ (r_16 = 0)) → (wp_X7_readsRow (fun r_24 u_25 => ((narrow .boolean (.int r_24)) = (.int r_24)) ∧ (post r_24 u_25)) u_17))) u_14 5)) ∧ ((¬ (r_13 = 0)) → (wp_X7_readsWorn (fun r_27 u_28 => ((narrow .boolean (.int r_27)) = (.int r_27)) ∧ (post r_27 u_28)) u_14))) u_11 4)) ∧ ((¬ (r_10 = 0)) → (wp_X7_readsCells (fun r_30 u_31 => ((narrow .boolean (.int r_30)) = (.int r_30)) ∧ (post r_30 u_31)) u_11))) u 3)) ∧ ((r_7 = 0) → (wp_X7_fails (fun r_33 u_34 => ((narrow .boolean (.int r_33)) = (.int r_33)) ∧ (post r_33 u_34)) u (3 : Int32) (u.1 6)))) u := by
  have e0 : (0 : Int32).toInt = 0 := rfl
  have e1 : (1 : Int32).toInt = 1 := rfl
  have l3 : ln 3 = 5 := rfl
  have l4 : ln 4 = 4 := rfl
  have l5 : ln 5 = 3 := rfl
  have pd := h.2.2.2.1
  refine wq_X7_drums h (fun r7 a7 => ⟨fun c7 => ?_, fun c7 => ?_⟩)
  · have c8 := q_neq c7
    have hD : 0 < D := by omega
    refine isw_s h h6 (by decide) nb (fun r q w b => ⟨fun g => by have := q_eq g; omega, fun _ => ?_⟩) (fun r q w3 => ⟨fun _ => ?_, fun g => by have := q_neq g; omega⟩)
    · exact wq_X7_readsCells h hD (by omega) (fun r v hv jv bv sv => ⟨nb_b bv, k _ _ D hv bv sv (Or.inr hD)⟩)
    refine isw_s h h6 (by decide) nb (fun r q w b => ⟨fun g => by have := q_eq g; omega, fun _ => ?_⟩) (fun r q w4 => ⟨fun _ => ?_, fun g => by have := q_neq g; omega⟩)
    · exact wq_X7_readsWorn h hD (Or.inr hD) (by omega) (fun r v hv jv bv sv => ⟨nb_b bv, k _ _ D hv bv sv (Or.inr hD)⟩)
    refine isw_s h h6 (by decide) nb (fun r q w b => ⟨fun g => by have := q_eq g; omega, fun _ => ?_⟩) (fun r q w5 => ⟨fun _ => ?_, fun g => by have := q_neq g; omega⟩)
    · exact wq_X7_readsRow h hD (by omega) (fun r v hv jv bv sv => ⟨nb_b bv, k _ _ D hv bv sv (Or.inr hD)⟩)
    have h4 : (u.1 6).toInt + 4 ≤ N := by
      rcases hw with g | g | g | g
      · exact g
      · exact absurd g w3
      · exact absurd g w4
      · exact absurd g w5
    refine wq_X7_readsLose h (by omega) (fun r19 u20 h20 j20 b20 s20 n20 => ⟨fun g => ?_, fun g => k _ _ D h20 (Or.inl e0) s20 (Or.inl e0)⟩)
    have g2 := q_neq g
    have t8 := tq_64 (u20.1 8)
    have pd2 := h20.2.2.2.1
    refine wq_X7_sets_4 h20 (by omega) (by omega) (fun v hv jv xv => k _ _ D hv (Or.inr e1) ?_ (Or.inr hD))
    have := ie_i jv 6 (by decide)
    omega
  · refine wq_X7_fails h (fun r v hv jv a b => ⟨nb_b (by omega), k _ _ D hv (by omega) ?_ (Or.inl (by omega))⟩)
    have := ie_i jv 6 (by decide)
    omega
theorem wq_X7_readsPart {post : Int32 → Md → Prop} {s0 : Md} {N R W D : Int} (h : mb N R W D s0) (hR : 1 ≤ R) (hl : 1 ≤ (s0.2.2.1 0 2).toInt) (h6 : 0 ≤ (s0.1 6).toInt ∧ (s0.1 6).toInt ≤ N) (k : ∀ (r : Int32) (u : Md) (D4 : Int), mb N R W D4 u → (r.toInt = 0 ∨ r.toInt = 1) → (s0.1 6).toInt ≤ (u.1 6).toInt ∧ (u.1 6).toInt ≤ N → (r.toInt = 0 ∨ 0 < D4) → post r u) : wp_X7_readsPart post s0 := by
  unfold wp_X7_readsPart
  have e0 : (0 : Int32).toInt = 0 := rfl
  have e1 : (1 : Int32).toInt = 1 := rfl
  have l2 : ln 2 = 4 := rfl
  have l3 : ln 3 = 5 := rfl
  have l4 : ln 4 = 4 := rfl
  have l5 : ln 5 = 3 := rfl
  have l6 : ln 6 = 4 := rfl
  refine wq_X7_isWord h h6 (by decide) (fun r1 u hu ju b s n e x => ?_)
  have nb := x.2.1
  have k2 : ∀ (r : Int32) (v : Md) (D4 : Int), mb N R W D4 v → (r.toInt = 0 ∨ r.toInt = 1) → (u.1 6).toInt ≤ (v.1 6).toInt ∧ (v.1 6).toInt ≤ N → (r.toInt = 0 ∨ 0 < D4) → post r v := fun r v D4 a1 a2 a3 a4 => k r v D4 a1 a2 (by omega) a4
  refine ⟨fun c => ?_, fun c => ?_⟩
  · refine isw_s hu (by omega) (by decide) nb (fun r q w b => ⟨fun _ => rp_b hu (by omega) nb (Or.inr (Or.inl w)) hR k2, fun g => by have := q_eq g; omega⟩) (fun r q w3 => ⟨fun g => by have := q_neq g; omega, fun _ => ?_⟩)
    refine isw_s hu (by omega) (by decide) nb (fun r q w b => ⟨fun _ => rp_b hu (by omega) nb (Or.inr (Or.inr (Or.inl w))) hR k2, fun g => by have := q_eq g; omega⟩) (fun r q w4 => ⟨fun g => by have := q_neq g; omega, fun _ => ?_⟩)
    refine isw_s hu (by omega) (by decide) nb (fun r q w b => ⟨fun _ => rp_b hu (by omega) nb (Or.inr (Or.inr (Or.inr w))) hR k2, fun g => by have := q_eq g; omega⟩) (fun r q w5 => ⟨fun g => by have := q_neq g; omega, fun _ => ?_⟩)
    refine isw_s hu (by omega) (by decide) nb (fun r q w b => ⟨fun g => by have := q_eq g; omega, fun _ => rp_b hu (by omega) nb (Or.inl (by omega)) hR k2⟩) (fun r q w6 => ⟨fun _ => ?_, fun g => by have := q_neq g; omega⟩)
    refine wq_X7_fails hu (fun r v hv jv a b => ⟨nb_b (by omega), k2 _ _ D hv (by omega) ?_ (Or.inl (by omega))⟩)
    have := ie_i jv 6 (by decide)
    omega
  · have c2 := q_neq c
    refine wq_X7_readsDrum hu hR (by rw [e]; exact hl) (by omega) (fun r v D4 hv bv sv nv => ⟨nb_b bv, k2 _ _ D4 hv bv sv nv⟩)
theorem rw_hd {R W D R2 W2 : Int} {f g : Nat → Int64} (hf : rw_ok R W D f) (hD : D ≤ 0) (h : ∀ i, 2 ≤ i → g i = f i) (h0 : (g 0).toInt = R2) (h1 : (g 1).toInt = W2) (hp : 1 ≤ R2 ∧ R2 ≤ 6 ∧ 0 ≤ W2 ∧ W2 ≤ 10 ∧ 0 ≤ R2 * W2 ∧ R2 * W2 ≤ 40) : rw_ok R2 W2 D g := by
  obtain ⟨a0, a1, a2, a3, a4, a5, a6, a7⟩ := hf
  have hc : ∀ c j, c_f g c j = c_f f c j := fun c j => by
    unfold c_f
    rw [h _ (by omega)]
  refine ⟨h0, h1, by rw [h 3 (by decide)]; exact a2, Or.inl hD, by rw [h 2 (by decide)]; exact a4, by omega, fun d hd => by omega, fun c hcc => ?_⟩
  obtain ⟨q1, q2, q3⟩ := a7 c hcc
  unfold rw_c
  rw [hc c 0, hc c 1, hc c 2, hc c 3, hc c 4]
  exact ⟨q1, q2, fun g => by omega⟩
theorem wq_X7_readsBoard_L116 {post : Int32 → Md → Prop} {e147 e149 : Md → Prop} {N R W : Int} (hR : 1 ≤ R) (k147 : ∀ (t : Md) (D : Int), mb N R W D t → e147 t) (k149 : ∀ (t : Md) (D : Int), mb N R W D t → 0 ≤ (t.1 6).toInt ∧ (t.1 6).toInt ≤ N → e149 t) : ∀ (n : Nat) (t : Md) (D : Int), mb N R W D t → 1 ≤ (t.2.2.1 0 2).toInt → 0 ≤ (t.1 6).toInt ∧ (t.1 6).toInt ≤ N → N - (t.1 6).toInt < (n : Int) → wp_X7_readsBoard_L116 post e147 e149 n t := by
  have e0 : (0 : Int32).toInt = 0 := rfl
  have e1 : (1 : Int32).toInt = 1 := rfl
  have e59 : (59 : Int32).toInt = 59 := rfl
  intro n
  induction n with
  | zero =>
    intro t D _ _ _ _
    exfalso
    omega
  | succ n ih =>
    intro t D h hl h6 hm
    unfold wp_X7_readsBoard_L116
    refine wq_X7_nextByte h h6 (fun r u hu ju b1 b2 bE b3 => ⟨fun c => k149 u D hu (by omega), fun c => ?_⟩)
    have c2 := q_eq c
    have pn := hu.2.2.1
    have s1 := nw (tq_addr e1 (u.1 6)) (by omega)
    have e6 : (((va_up u.1 6 ((u.1 6) + 1)), u.2.1, u.2.2.1, u.2.2.2) : Md).1 6 = u.1 6 + 1 := rfl
    refine wq_X7_nextByte (N := N) (R := R) (W := W) (D := D) (mb_i hu rfl rfl rfl) (by rw [e6]; omega) (fun r2 v hv jv d1 d2 dE d3 => ?_)
    rw [e6] at d1
    have lv : 1 ≤ (v.2.2.1 0 2).toInt := by
      have e : v.2 = t.2 := dE.trans bE
      rw [e]
      exact hl
    refine wq_X7_readsPart hv hR lv (by omega) (fun r3 w D4 hw bw sw nw4 => ⟨fun g => ?_, fun g => k147 w D4 hw⟩)
    have g2 := q_neq g
    exact ih w D4 hw (mb_lim hw (by omega)) (by omega) (by omega)
theorem wq_X7_readsBoard_L116b {post : Int32 → Md → Prop} {e147 e149 : Md → Prop} {N R W : Int} (hR : 1 ≤ R) (k147 : ∀ (t : Md) (D : Int), mb N R W D t → e147 t) (k149 : ∀ (t : Md) (D : Int), mb N R W D t → 0 ≤ (t.1 6).toInt ∧ (t.1 6).toInt ≤ N → e149 t) : ∀ (n : Nat) (t : Md) (D : Int), mb N R W D t → 1 ≤ (t.2.2.1 0 2).toInt → 0 ≤ (t.1 6).toInt ∧ (t.1 6).toInt ≤ N → N - (t.1 6).toInt < (n : Int) → wp_X7_readsBoard_L116b post e147 e149 n t := by
  have e0 : (0 : Int32).toInt = 0 := rfl
  have e1 : (1 : Int32).toInt = 1 := rfl
  have e59 : (59 : Int32).toInt = 59 := rfl
  intro n
  induction n with
  | zero =>
    intro t D _ _ _ _
    exfalso
    omega
  | succ n ih =>
    intro t D h hl h6 hm
    unfold wp_X7_readsBoard_L116b
    refine wq_X7_nextByte h h6 (fun r u hu ju b1 b2 bE b3 => ⟨fun c => k149 u D hu (by omega), fun c => ?_⟩)
    have c2 := q_eq c
    have pn := hu.2.2.1
    have s1 := nw (tq_addr e1 (u.1 6)) (by omega)
    have e6 : (((va_up u.1 6 ((u.1 6) + 1)), u.2.1, u.2.2.1, u.2.2.2) : Md).1 6 = u.1 6 + 1 := rfl
    refine wq_X7_nextByte (N := N) (R := R) (W := W) (D := D) (mb_i hu rfl rfl rfl) (by rw [e6]; omega) (fun r2 v hv jv d1 d2 dE d3 => ?_)
    rw [e6] at d1
    have lv : 1 ≤ (v.2.2.1 0 2).toInt := by
      have e : v.2 = t.2 := dE.trans bE
      rw [e]
      exact hl
    refine wq_X7_readsPart hv hR lv (by omega) (fun r3 w D4 hw bw sw nw4 => ⟨fun g => ?_, fun g => k147 w D4 hw⟩)
    have g2 := q_neq g
    exact ih w D4 hw (mb_lim hw (by omega)) (by omega) (by omega)
theorem rb_end {post : Int32 → Md → Prop} {t0 : Md} {N R W D : Int} (h : mb N R W D t0) (h6 : 0 ≤ (t0.1 6).toInt ∧ (t0.1 6).toInt ≤ N) (k : ∀ (r : Int32) (u : Md) (R4 W4 D4 : Int), mb N R4 W4 D4 u → (r.toInt = 0 ∨ 0 < D4) → post r u) : wp_X7_nextByte (fun r_28 u_29 => ((r_28 = (-1) → wp_X7_drums (fun r_31 => ((0 < r_31 → post 1 u_29) ∧ (¬ 0 < r_31 → wp_X7_fails (fun r_34 u_35 => ((r_34 = 0 → post 0 u_35) ∧ (¬ r_34 = 0 → post 1 u_35))) u_29 (4 : Int32) (u_29.1 5)))) u_29) ∧ (¬ r_28 = (-1) → wp_X7_fails (fun r_37 u_38 => narrow .boolean (.int r_37) = .int r_37 ∧ post r_37 u_38) u_29 (1 : Int32) (u_29.1 6)))) t0 := by
  have e0 : (0 : Int32).toInt = 0 := rfl
  refine wq_X7_nextByte h h6 (fun r u hu ju b1 b2 bE b3 => ⟨fun c => ?_, fun c => ?_⟩)
  · refine wq_X7_drums hu (fun r31 a31 => ⟨fun g => k _ _ R W D hu (Or.inr ?_), fun g => ?_⟩)
    · have := q_lt g
      omega
    · exact wq_X7_fails hu (fun r34 v hv jv a b => ⟨fun _ => k _ _ R W D hv (Or.inl e0), fun g2 => absurd (q_neq g2) (by omega)⟩)
  · exact wq_X7_fails hu (fun r34 v hv jv a b => ⟨nb_b (by omega), k _ _ R W D hv (Or.inl (by omega))⟩)
theorem wq_X7_readsBoard {post : Int32 → Md → Prop} {s0 : Md} {N : Int} (h : mb N 0 0 0 s0) (k : ∀ (r : Int32) (u : Md) (R4 W4 D4 : Int), mb N R4 W4 D4 u → (r.toInt = 0 ∨ 0 < D4) → post r u) : wp_X7_readsBoard post s0 := by
  unfold wp_X7_readsBoard
  have e0 : (0 : Int32).toInt = 0 := rfl
  have e1 : (1 : Int32).toInt = 1 := rfl
  have e6 : (6 : Int32).toInt = 6 := rfl
  have e10 : (10 : Int32).toInt = 10 := rfl
  have e99 : (99 : Int32).toInt = 99 := rfl
  have pn := h.2.2.1
  have hs : mb N 0 0 0 ((va_up s0.1 6 0), s0.2.1, s0.2.2.1, s0.2.2.2) := mb_i h rfl rfl rfl
  have z6 : (((va_up s0.1 6 0), s0.2.1, s0.2.2.1, s0.2.2.2) : Md).1 6 = 0 := rfl
  refine wq_X7_mustWord hs (by rw [z6]; omega) (by decide) (fun r1 u2 h2 j2 b2 s2 x2 => ⟨fun _ => k _ _ _ _ _ h2 (Or.inl e0), fun _ => ?_⟩)
  rw [z6] at s2
  refine wq_X7_readsNumber h2 (by omega) (fun r4 u5 h5 j5 b5 s5 n5 x5 => ⟨fun c4 => ?_, fun _ => k _ _ _ _ _ h5 (Or.inl e0)⟩)
  have c4 := q_neq c4
  have v5 := tq_64 (u5.1 8)
  generalize Int32.toInt64 (u5.1 8) = w5 at v5 ⊢
  have hT : mb N (u5.1 8).toInt 0 0 (u5.1, u5.2.1, (va_up u5.2.2.1 0 (vp_updL (u5.2.2.1 0) (Int32.toNatClampNeg 0) w5)), u5.2.2.2) := by
    refine mb_nowD (t := (u5.1, u5.2.1, (va_up u5.2.2.1 0 (vp_updL (u5.2.2.1 0) (Int32.toNatClampNeg 0) w5)), u5.2.2.2)) h5 rfl rfl (fun j hj => ?_) rfl (rw_hd h5.2.2.2.2.1 (by omega) (fun i hi => ?_) ?_ ?_ (by omega))
    · show (if j = 0 then _ else u5.2.2.1 j) = _
      rw [if_neg hj]
    · show vp_updL (u5.2.2.1 0) 0 w5 i = _
      rw [ul_ne (by omega)]
    · show (vp_updL (u5.2.2.1 0) 0 w5 0).toInt = _
      rw [ul_at]
      exact v5
    · show (vp_updL (u5.2.2.1 0) 0 w5 1).toInt = 0
      rw [ul_ne (by decide)]
      exact h5.2.2.2.2.1.2.1
  have t6 : ((u5.1, u5.2.1, (va_up u5.2.2.1 0 (vp_updL (u5.2.2.1 0) (Int32.toNatClampNeg 0) w5)), u5.2.2.2) : Md).1 6 = u5.1 6 := rfl
  generalize hTt : ((u5.1, u5.2.1, (va_up u5.2.2.1 0 (vp_updL (u5.2.2.1 0) (Int32.toNatClampNeg 0) w5)), u5.2.2.2) : Md) = T at hT t6 ⊢
  -- the rest, for a bound on the width
  have rest : ∀ u12 : Md, mb N (u5.1 8).toInt 0 0 u12 → 0 ≤ (u12.1 6).toInt ∧ (u12.1 6).toInt ≤ N → 1 ≤ (u12.1 8).toInt ∧ (u12.1 8).toInt ≤ (if (40 / (u5.1 8)) < (10 : Int32) then (40 / (u5.1 8)) else (10 : Int32)).toInt → mb N (u5.1 8).toInt (u12.1 8).toInt 0 (u12.1, u12.2.1, (va_up u12.2.2.1 0 (vp_updL (u12.2.2.1 0) (Int32.toNatClampNeg 1) (Int32.toInt64 (u12.1 8)))), u12.2.2.2) := fun u12 h12 s12 n12 => by
    have hb := hd_b (a := u5.1 8) (b := u12.1 8) (by omega) n12
    have v12 := tq_64 (u12.1 8)
    refine mb_nowD (t := (u12.1, u12.2.1, (va_up u12.2.2.1 0 (vp_updL (u12.2.2.1 0) (Int32.toNatClampNeg 1) (Int32.toInt64 (u12.1 8)))), u12.2.2.2)) h12 rfl rfl (fun j hj => ?_) rfl (rw_hd h12.2.2.2.2.1 (by omega) (fun i hi => ?_) ?_ ?_ (by omega))
    · show (if j = 0 then _ else u12.2.2.1 j) = _
      rw [if_neg hj]
    · show vp_updL (u12.2.2.1 0) 1 (Int32.toInt64 (u12.1 8)) i = _
      rw [ul_ne (by omega)]
    · show (vp_updL (u12.2.2.1 0) 1 (Int32.toInt64 (u12.1 8)) 0).toInt = _
      rw [ul_ne (by decide)]
      exact h12.2.2.2.2.1.1
    · show (vp_updL (u12.2.2.1 0) 1 (Int32.toInt64 (u12.1 8)) 1).toInt = _
      rw [ul_at]
      exact v12
  have lim : ∀ (u18 : Md) (W4 : Int), mb N (u5.1 8).toInt W4 0 u18 → 1 ≤ (u18.1 8).toInt ∧ (u18.1 8).toInt ≤ 99 → mb N (u5.1 8).toInt W4 0 (u18.1, u18.2.1, (va_up u18.2.2.1 0 (vp_updL (u18.2.2.1 0) (Int32.toNatClampNeg 2) (Int32.toInt64 (u18.1 8)))), u18.2.2.2) ∧ 1 ≤ (((u18.1, u18.2.1, (va_up u18.2.2.1 0 (vp_updL (u18.2.2.1 0) (Int32.toNatClampNeg 2) (Int32.toInt64 (u18.1 8)))), u18.2.2.2) : Md).2.2.1 0 2).toInt := fun u18 W4 h18 n18 => by
    have v18 := tq_64 (u18.1 8)
    refine ⟨mb_now h18 rfl (fun j hj => ?_) rfl (rw_lim h18.2.2.2.2.1 (by omega)), ?_⟩
    · show (if j = 0 then _ else u18.2.2.1 j) = _
      rw [if_neg hj]
    · show 1 ≤ (vp_updL (u18.2.2.1 0) 2 (Int32.toInt64 (u18.1 8)) 2).toInt
      rw [ul_at]
      omega
  have fin : ∀ (t : Md) (D : Int) (W4 : Int), mb N (u5.1 8).toInt W4 D t → post 0 t := fun t D W4 ht => k _ _ _ _ _ ht (Or.inl e0)
  have same : ∀ r : Int32, r.toInt = (u5.1 8).toInt → r = u5.1 8 := fun r e => Int32.toInt_inj.mp e
  refine wq_X7_rows hT (fun r7 a7 => ?_)
  have q7 := same r7 a7
  subst q7
  refine ⟨z_ne (by omega), fun c10 => ?_, fun c10 => ?_⟩
  · have c11 := q_le c10
    refine wq_X7_readsNumber hT (by rw [t6]; omega) (fun r11 u12 h12 j12 b12 s12 n12 x12 => ⟨fun c12 => ?_, fun _ => k _ _ _ _ _ h12 (Or.inl e0)⟩)
    rw [t6] at s12
    have c13 := q_neq c12
    have m := rest u12 h12 (by omega) (by have q := tq_ite (a := 40 / (u5.1 8)) (b := 10) (x := 40 / (u5.1 8)) (y := 10); omega)
    refine wq_X7_mustWord m (by show 0 ≤ (u12.1 6).toInt ∧ (u12.1 6).toInt ≤ N; omega) (by decide) (fun r14 u15 h15 j15 b15 s15 x15 => ⟨fun _ => fin _ _ _ h15, fun _ => ?_⟩)
    have s15' : (u12.1 6).toInt ≤ (u15.1 6).toInt ∧ (u15.1 6).toInt ≤ N := s15
    refine wq_X7_readsNumber h15 (by omega) (fun r17 u18 h18 j18 b18 s18 n18 x18 => ⟨fun c17 => ?_, fun _ => fin _ _ _ h18⟩)
    have c18 := q_neq c17
    have mm := lim u18 _ h18 (by omega)
    obtain ⟨nf, hf⟩ := fu_e 500
    exact ⟨nf, wq_X7_readsBoard_L116 (by omega) (fun t D ht => fin t D _ ht) (fun t D ht s => rb_end ht s k) nf _ 0 mm.1 mm.2 (by show 0 ≤ (u18.1 6).toInt ∧ (u18.1 6).toInt ≤ N; omega) (by show N - (u18.1 6).toInt < (nf : Int); omega)⟩
  · have c11 := q_nle c10
    refine wq_X7_rows hT (fun r40 a40 => ?_)
    have q40 := same r40 a40
    subst q40
    refine ⟨z_ne (by omega), ?_⟩
    refine wq_X7_readsNumber hT (by rw [t6]; omega) (fun r11 u12 h12 j12 b12 s12 n12 x12 => ⟨fun c12 => ?_, fun _ => k _ _ _ _ _ h12 (Or.inl e0)⟩)
    rw [t6] at s12
    have c13 := q_neq c12
    have m := rest u12 h12 (by omega) (by have q := tq_ite (a := 40 / (u5.1 8)) (b := 10) (x := 40 / (u5.1 8)) (y := 10); omega)
    refine wq_X7_mustWord m (by show 0 ≤ (u12.1 6).toInt ∧ (u12.1 6).toInt ≤ N; omega) (by decide) (fun r14 u15 h15 j15 b15 s15 x15 => ⟨fun _ => fin _ _ _ h15, fun _ => ?_⟩)
    have s15' : (u12.1 6).toInt ≤ (u15.1 6).toInt ∧ (u15.1 6).toInt ≤ N := s15
    refine wq_X7_readsNumber h15 (by omega) (fun r17 u18 h18 j18 b18 s18 n18 x18 => ⟨fun c17 => ?_, fun _ => fin _ _ _ h18⟩)
    have c18 := q_neq c17
    have mm := lim u18 _ h18 (by omega)
    obtain ⟨nf, hf⟩ := fu_e 500
    exact ⟨nf, wq_X7_readsBoard_L116b (by omega) (fun t D ht => fin t D _ ht) (fun t D ht s => rb_end ht s k) nf _ 0 mm.1 mm.2 (by show 0 ≤ (u18.1 6).toInt ∧ (u18.1 6).toInt ≤ N; omega) (by show N - (u18.1 6).toInt < (nf : Int); omega)⟩
theorem wq_X7_tell_L6 {post : Int32 → Md → Prop} {e26 : Md → Int32 → Prop} {s : Md} (ke : ∀ (t : Md) (z : Int32), t.1 = s.1 → t.2.2.2 = s.2.2.2 → (∀ j, ¬ j = 0 → t.2.2.1 j = s.2.2.1 j) → (∀ i : Nat, i < 6896 → t.2.2.1 0 i = 0) → e26 t z) : ∀ (n : Nat) (t : Md) (z1 : Int32), t.1 = s.1 → t.2.2.2 = s.2.2.2 → (∀ j, ¬ j = 0 → t.2.2.1 j = s.2.2.1 j) → (∀ i : Nat, (i : Int) < z1.toInt → t.2.2.1 0 i = 0) → 0 ≤ z1.toInt ∧ z1.toInt ≤ 6896 → 6896 - z1.toInt < (n : Int) → wp_X7_tell_L6 post e26 n t z1 := by
  have e1 : (1 : Int32).toInt = 1 := rfl
  have eR : (6896 : Int32).toInt = 6896 := rfl
  intro n
  induction n with
  | zero =>
    intro t z1 _ _ _ _ _ _
    exfalso
    omega
  | succ n ih =>
    intro t z1 a1 a3 a4 a5 i2 i3
    unfold wp_X7_tell_L6
    refine ⟨fun c => ke t z1 a1 a3 a4 (fun i hi => a5 i (by have := q_le c; omega)), fun c => ?_⟩
    have c2 := q_nle c
    have s1 := nw (tq_addr e1 z1) (by omega)
    have iz := tn_i z1
    refine ⟨vi (by omega) (by omega), ih _ _ a1 a3 (fun j hj => ?_) (fun i hi => ?_) (by omega) (by omega)⟩
    · show (if j = 0 then _ else t.2.2.1 j) = _
      rw [if_neg hj]
      exact a4 j hj
    · show vp_updL (t.2.2.1 0) (Int32.toNatClampNeg z1) 0 i = 0
      rw [iz]
      by_cases e : i = z1.toInt.toNat
      · rw [e, ul_at]
      · rw [ul_ne e]
        exact a5 i (by omega)
theorem rw_zero {f : Nat → Int64} (h : ∀ i : Nat, i < 6896 → f i = 0) : rw_ok 0 0 0 f := by
  have z : (0 : Int64).toInt = 0 := rfl
  have hc : ∀ c j, c < 40 → j ≤ 4 → c_f f c j = 0 := fun c j h1 h2 => by
    unfold c_f
    rw [h _ (by omega)]
    rfl
  refine ⟨by rw [h 0 (by decide)]; rfl, by rw [h 1 (by decide)]; rfl, by rw [h 3 (by decide)]; rfl, Or.inl (by omega), by rw [h 2 (by decide)]; decide, by omega, fun d hd => by omega, fun c hcc => ?_⟩
  unfold rw_c
  rw [hc c 0 hcc (by omega), hc c 1 hcc (by omega), hc c 2 hcc (by omega), hc c 3 hcc (by omega), hc c 4 hcc (by omega)]
  exact ⟨by omega, fun _ => by omega, fun g => by omega⟩
theorem wq_X7_tell {post : Int32 → Md → Prop} {s0 : Md} {N R W D : Int} (h : mb N R W D s0) (hs : R ≤ 0 ∨ 0 < D) (k : ∀ (r : Int32) (u : Md) (R4 W4 D4 : Int), mb 0 R4 W4 D4 u → R4 ≤ 0 ∨ 0 < D4 → post r u) : wp_X7_tell post s0 := by
  unfold wp_X7_tell
  have e0 : (0 : Int32).toInt = 0 := rfl
  refine wq_X7_putsAside h hs (fun u hu ju xu => ?_)
  obtain ⟨nf, hf⟩ := fu_e 7000
  refine ⟨nf, wq_X7_tell_L6 (s := u) (fun t z b1 b3 b4 b5 => ?_) nf u 0 rfl rfl (fun _ _ => rfl) (fun i hi => by omega) (by omega) (by omega)⟩
  have ht : mb N 0 0 0 t := mb_nowD hu (by rw [b1]) (by rw [b1]) b4 (by rw [b3]) (rw_zero b5)
  refine wq_X7_readsBoard ht (fun r5 v R4 W4 D4 hv hd => ⟨fun c => ?_, fun c => ?_⟩)
  · have c2 := q_neq c
    obtain ⟨a0, a1, a2, a3, a4, a5, a6, a7⟩ := id hv
    have hm : mb 0 R4 W4 D4 ((va_up (va_up v.1 0 0) 5 0), v.2.1, v.2.2.1, v.2.2.2) := ⟨e0, by show 0 ≤ (0 : Int32).toInt ∧ (0 : Int32).toInt ≤ 10; omega, by omega, a3, a4, fun kk hk => absurd (show (kk : Int) < 0 from hk) (by omega), a6, a7⟩
    exact wq_X7_drums hm (fun r8 _ => k _ _ _ _ _ hm (Or.inr (by omega)))
  · have hm : mb 0 R4 W4 D4 ((va_up v.1 5 0), v.2.1, v.2.2.1, v.2.2.2) := mb_N hv e0 (by omega) rfl rfl rfl
    exact wq_X7_takesBack hm (fun w R5 W5 D5 hw sw jw => k _ _ _ _ _ hw sw)
