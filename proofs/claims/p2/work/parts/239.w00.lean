theorem rw_dw {R W D : Int} {f : Nat → Int64} {d : Nat} {v : Int64} (hf : rw_ok R W D f) (hd : D ≤ (d : Int)) (h4 : d < 4) : rw_ok R W D (vp_updL f (8 + 42 * d + 1) v) := by
  obtain ⟨a0, a1, a2, a3, a4, a5, a6, a7⟩ := hf
  have hc : ∀ c j, c_f (vp_updL f (8 + 42 * d + 1) v) c j = c_f f c j := fun c j => c_ne (by omega)
  refine ⟨by rw [ul_ne (by omega)]; exact a0, by rw [ul_ne (by omega)]; exact a1, by rw [ul_ne (by omega)]; exact a2, by rw [ul_ne (by omega)]; exact a3, by rw [ul_ne (by omega)]; exact a4, a5, fun d2 hD => by rw [d_ne (by omega)]; exact a6 d2 hD, fun c h2 => ?_⟩
  obtain ⟨q1, q2, q3⟩ := a7 c h2
  unfold rw_c
  rw [hc c 0, hc c 1, hc c 2, hc c 3, hc c 4]
  refine ⟨q1, q2, fun g => ?_⟩
  have := q3 g
  rw [d_ne (by omega)]
  exact this
theorem rw_add {R W D : Int} {f : Nat → Int64} {v : Int64} (hf : rw_ok R W D f) (h2 : 2 ≤ d_f f D.toNat ∧ d_f f D.toNat ≤ 40) (hD : D < 4) (hl : 1 ≤ (f 2).toInt) (hR : 1 ≤ R) (hv : v.toInt = D + 1) : rw_ok R W (D + 1) (vp_updL f 3 v) := by
  obtain ⟨a0, a1, a2, a3, a4, a5, a6, a7⟩ := hf
  have hc : ∀ c j, c_f (vp_updL f 3 v) c j = c_f f c j := fun c j => c_ne (by omega)
  have hd : ∀ d, d_f (vp_updL f 3 v) d = d_f f d := fun d => d_ne (by omega)
  refine ⟨by rw [ul_ne (by omega)]; exact a0, by rw [ul_ne (by omega)]; exact a1, by rw [ul_at]; exact hv, by rw [ul_ne (by omega)]; exact Or.inr hl, by rw [ul_ne (by omega)]; exact a4, by omega, fun d2 h3 => ?_, fun c h3 => ?_⟩
  · rw [hd]
    by_cases e : (d2 : Int) < D
    · exact a6 d2 e
    · have e2 : d2 = D.toNat := by omega
      rw [e2]
      exact h2
  · obtain ⟨q1, q2, q3⟩ := a7 c h3
    unfold rw_c
    rw [hc c 0, hc c 1, hc c 2, hc c 3, hc c 4, hd]
    refine ⟨q1, fun g => by omega, fun g => ?_⟩
    by_cases e : D ≤ 0
    · have z := q2 e
      have e2 : D.toNat = (c_f f c 0).toNat := by omega
      rw [e2] at h2
      omega
    · have z := q3 (by omega)
      omega
theorem lim_e {s t : Md} (e : t.2 = s.2) (h : 1 ≤ ((s.2.2.1 0) 2).toInt) : 1 ≤ ((t.2.2.1 0) 2).toInt := by
  rw [e]
  exact h
theorem mb_lim {N R W D : Int} {s : Md} (h : mb N R W D s) (hD : 0 < D) : 1 ≤ (s.2.2.1 0 2).toInt := by
  have := h.2.2.2.2.1.2.2.2.1
  omega
theorem mb_nowD {N R W D D2 : Int} {s t : Md} (h : mb N R W D s) (h5 : t.1 5 = s.1 5) (h0 : t.1 0 = s.1 0) (h2 : ∀ k, ¬ k = 0 → t.2.2.1 k = s.2.2.1 k) (h3 : t.2.2.2 0 = s.2.2.2 0) {R2 W2 : Int} (hr : rw_ok R2 W2 D2 (t.2.2.1 0)) : mb N R2 W2 D2 t := by
  obtain ⟨a0, a1, a2, a3, a4, a5, a6, a7⟩ := h
  refine ⟨by rw [h5]; exact a0, by rw [h0]; exact a1, a2, hr.2.2.2.2.2.1, hr, fun k hk => ?_, fun k hk => ?_, by rw [h2 3 (by decide)]; exact a7⟩
  · rw [h2 1 (by decide)]
    rw [h0] at hk
    exact a5 k hk
  · rw [h2 2 (by decide), h3]
    exact a6 k hk
theorem wq_X7_readsDrum_L91 {post : Int32 → Md → Prop} {e127 : Md → Int32 → Int32 → Int32 → Prop} {s : Md} {z1 z2 : Int32} {N R W D : Int} (hd : 0 ≤ D ∧ D < 4) (hz : z2.toInt = 8 + 42 * D) (hq : 0 ≤ (s.1 10).toInt ∧ 0 ≤ (s.1 11).toInt ∧ (s.1 11).toInt ≤ 40 ∧ (s.1 10).toInt + (s.1 11).toInt ≤ 400) (ke : ∀ (t : Md) (z3 : Int32), mb N R W D t → t.1 = s.1 → d_f (t.2.2.1 0) D.toNat = d_f (s.2.2.1 0) D.toNat → t.2.2.1 0 2 = s.2.2.1 0 2 → t.2.2.1 0 3 = s.2.2.1 0 3 → e127 t z1 z2 z3) : ∀ (n : Nat) (t : Md) (z3 : Int32), mb N R W D t → t.1 = s.1 → d_f (t.2.2.1 0) D.toNat = d_f (s.2.2.1 0) D.toNat → t.2.2.1 0 2 = s.2.2.1 0 2 → t.2.2.1 0 3 = s.2.2.1 0 3 → 0 ≤ z3.toInt ∧ z3.toInt ≤ 40 → 40 - z3.toInt < (n : Int) → wp_X7_readsDrum_L91 post e127 n t z1 z2 z3 := by
  have e1 : (1 : Int32).toInt = 1 := rfl
  have e2 : (2 : Int32).toInt = 2 := rfl
  intro n
  induction n with
  | zero =>
    intro t z3 _ _ _ _ _ _ _
    exfalso
    omega
  | succ n ih =>
    intro t z3 h b1 b2 b3 b4 i2 i3
    unfold wp_X7_readsDrum_L91
    refine ⟨fun c => ke t z3 h b1 b2 b3 b4, fun c => ?_⟩
    have c2 := q_nle c
    have t10 : (t.1 10).toInt = (s.1 10).toInt := by rw [b1]
    have t11 : (t.1 11).toInt = (s.1 11).toInt := by rw [b1]
    have s1 := nw (tq_addr e1 z3) (by omega)
    have m1 := nw (tq_add (t.1 10) z3) (by omega)
    have m2 := nw (tq_addr e2 z2) (by omega)
    have m3 := nw (tq_add (z2 + 2) z3) (by omega)
    have ix : Int32.toNatClampNeg ((z2 + 2) + z3) = ((z2 + 2) + z3).toInt.toNat := tn_i _
    have irr : ¬ rw_rel (Int32.toNatClampNeg ((z2 + 2) + z3)) := by
      rw [ix]
      unfold rw_rel
      omega
    refine ⟨vi (by omega) (by omega), vi (by omega) (by omega), ih _ _ (mb_6 h irr) b1 ?_ ?_ ?_ (by omega) (by omega)⟩
    · show d_f (vp_updL (t.2.2.1 0) (Int32.toNatClampNeg ((z2 + 2) + z3)) _) D.toNat = _
      rw [d_ne (by rw [ix]; omega)]
      exact b2
    · show vp_updL (t.2.2.1 0) (Int32.toNatClampNeg ((z2 + 2) + z3)) _ 2 = _
      rw [ul_ne (by rw [ix]; omega)]
      exact b3
    · show vp_updL (t.2.2.1 0) (Int32.toNatClampNeg ((z2 + 2) + z3)) _ 3 = _
      rw [ul_ne (by rw [ix]; omega)]
      exact b4
theorem wq_X7_readsDrum {post : Int32 → Md → Prop} {s0 : Md} {N R W D : Int} (h : mb N R W D s0) (hR : 1 ≤ R) (hl : 1 ≤ (s0.2.2.1 0 2).toInt) (h6 : 0 ≤ (s0.1 6).toInt ∧ (s0.1 6).toInt + 4 ≤ N) (k : ∀ (r : Int32) (u : Md) (D4 : Int), mb N R W D4 u → (r.toInt = 0 ∨ r.toInt = 1) → (s0.1 6).toInt ≤ (u.1 6).toInt ∧ (u.1 6).toInt ≤ N → (r.toInt = 0 ∨ 0 < D4) → post r u) : wp_X7_readsDrum post s0 := by
  unfold wp_X7_readsDrum
  have e0 : (0 : Int32).toInt = 0 := rfl
  have e1 : (1 : Int32).toInt = 1 := rfl
  have e4 : (4 : Int32).toInt = 4 := rfl
  have e2 : (2 : Int32).toInt = 2 := rfl
  have e40 : (40 : Int32).toInt = 40 := rfl
  have pd := h.2.2.2.1
  have pn := h.2.2.1
  refine wq_X7_drums h (fun r1 a1 => ⟨fun c => ?_, fun c => ?_⟩)
  · have c2 := q_neq c
    have s6 := nw (tq_addr e4 (s0.1 6)) (by omega)
    have e6 : (((va_up s0.1 6 ((s0.1 6) + 4)), s0.2.1, s0.2.2.1, s0.2.2.2) : Md).1 6 = s0.1 6 + 4 := rfl
    refine wq_X7_readsNumber (N := N) (R := R) (W := W) (D := D) (mb_i h rfl rfl rfl) (by rw [e6]; omega) (fun r4 u5 h5 j5 b5 s5 n5 x5 => ⟨fun c3 => ?_, fun c3 => k _ _ D h5 (Or.inl e0) (by rw [e6] at s5; omega) (Or.inl e0)⟩)
    rw [e6] at s5
    refine wq_X7_readsQuoted h5 (by omega) (by omega) (fun r7 u8 h8 j8 b8 s8 n8 x8 => ⟨fun c4 => ?_, fun c4 => k _ _ D h8 (Or.inl e0) (by omega) (Or.inl e0)⟩)
    have c5 := q_neq c4
    have n9 : 0 ≤ (u8.1 10).toInt ∧ 0 ≤ (u8.1 11).toInt ∧ (u8.1 10).toInt + (u8.1 11).toInt ≤ N ∧ 2 ≤ (u8.1 11).toInt ∧ (u8.1 11).toInt ≤ 40 := by omega
    refine wq_X7_drums h8 (fun r10 a10 => ?_)
    have i1 := ix_d (x := r10) (by omega)
    have i2 := ix_d1 (x := r10) (by omega)
    refine ⟨vi (by omega) (by omega), vi (by omega) (by omega), ?_⟩
    have row2 : u8.2 = s0.2 := x8.trans x5
    have r2e : u8.2.2.1 0 2 = s0.2.2.1 0 2 := by rw [row2]
    have r3e : (u8.2.2.1 0 3).toInt = D := h8.2.2.2.2.1.2.2.1
    have dN : r10.toInt.toNat = D.toNat := by rw [a10]
    generalize hv1 : Int32.toInt64 (u5.1 8) = v1
    have v2i := tq_64 (u8.1 11)
    generalize hv2 : Int32.toInt64 (u8.1 11) = v2 at v2i
    rw [i1.1, i2.1, dN]
    have irr1 : ¬ rw_rel (8 + 42 * D.toNat) := by
      unfold rw_rel
      omega
    have rT : rw_ok R W D (vp_updL (vp_updL (u8.2.2.1 0) (8 + 42 * D.toNat) v1) (8 + 42 * D.toNat + 1) v2) := rw_dw (rw_irr h8.2.2.2.2.1 irr1) (by omega) (by omega)
    have hT : mb N R W D (u8.1, u8.2.1, (va_up u8.2.2.1 0 (vp_updL (vp_updL (u8.2.2.1 0) (8 + 42 * D.toNat) v1) (8 + 42 * D.toNat + 1) v2)), u8.2.2.2) := mb_now h8 rfl (fun k hk => by
      show (if k = 0 then _ else u8.2.2.1 k) = _
      rw [if_neg hk]) rfl rT
    obtain ⟨nf, hf⟩ := fu_e 50
    refine ⟨nf, wq_X7_readsDrum_L91 (s := (u8.1, u8.2.1, (va_up u8.2.2.1 0 (vp_updL (vp_updL (u8.2.2.1 0) (8 + 42 * D.toNat) v1) (8 + 42 * D.toNat + 1) v2)), u8.2.2.2)) (D := D) (by omega) (by omega) ⟨n9.1, n9.2.1, n9.2.2.2.2, (by show (u8.1 10).toInt + (u8.1 11).toInt ≤ 400; omega)⟩ (fun t z3 ht b1 b2 b3 b4 => ?_) nf _ 0 hT rfl rfl rfl rfl (by omega) (by omega)⟩
    have d2 : d_f (t.2.2.1 0) D.toNat = v2.toInt := by
      rw [b2]
      show (vp_updL _ (8 + 42 * D.toNat + 1) v2 (8 + 42 * D.toNat + 1)).toInt = _
      rw [ul_at]
    have q2 : t.2.2.1 0 2 = s0.2.2.1 0 2 := by
      rw [b3]
      show vp_updL (vp_updL (u8.2.2.1 0) (8 + 42 * D.toNat) v1) (8 + 42 * D.toNat + 1) v2 2 = _
      rw [ul_ne (by omega), ul_ne (by omega)]
      exact r2e
    have q3 : ((t.2.2.1 0) (Int32.toNatClampNeg 3) + 1).toInt = D + 1 := by
      have e3 : (t.2.2.1 0 3).toInt = D := ht.2.2.2.2.1.2.2.1
      show (t.2.2.1 0 3 + 1).toInt = D + 1
      have l1 : (1 : Int64).toInt = 1 := rfl
      rw [Int64.toInt_add, l1, e3]
      have : (2 ^ 64 : Nat) = 18446744073709551616 := by decide
      rw [this]
      unfold Int.bmod
      dsimp only
      split <;> omega
    have hfin : mb N R W (D + 1) (t.1, t.2.1, (va_up t.2.2.1 0 (vp_updL (t.2.2.1 0) (Int32.toNatClampNeg 3) ((t.2.2.1 0) (Int32.toNatClampNeg 3) + 1))), t.2.2.2) := mb_nowD ht rfl rfl (fun j hj => by
      show (if j = 0 then _ else t.2.2.1 j) = _
      rw [if_neg hj]) rfl (rw_add ht.2.2.2.2.1 (by omega) (by omega) (by rw [q2]; exact hl) hR q3)
    refine k _ _ (D + 1) hfin (Or.inr e1) ?_ (Or.inr (by omega))
    · show (s0.1 6).toInt ≤ (t.1 6).toInt ∧ (t.1 6).toInt ≤ N
      rw [b1]
      show (s0.1 6).toInt ≤ (u8.1 6).toInt ∧ (u8.1 6).toInt ≤ N
      omega
  · refine wq_X7_fails h (fun r u hu ju a b => ⟨nb_b (by omega), k _ _ D hu (by omega) ?_ (Or.inl (by omega))⟩)
    have := ie_i ju 6 (by decide)
    omega
theorem wq_X7_readsCells_L78 {post : Int32 → Md → Prop} {e99 : Md → Int32 → Int32 → Int32 → Int32 → Prop} {s : Md} {z1 z2 z3 : Int32} (hx : 0 ≤ z3.toInt ∧ z3.toInt < 40) (ke : ∀ (t : Md) (z4 : Int32), t.1 = s.1 → (∀ k, ¬ k = 0 → t.2.2.1 k = s.2.2.1 k) → t.2.2.2 = s.2.2.2 → (∀ i, ¬ (176 + 8 * z3.toInt.toNat ≤ i ∧ i < 176 + 8 * z3.toInt.toNat + 8) → t.2.2.1 0 i = s.2.2.1 0 i) → (∀ j, j < 8 → t.2.2.1 0 (176 + 8 * z3.toInt.toNat + j) = 0) → e99 t z1 z2 z3 z4) : ∀ (n : Nat) (t : Md) (z4 : Int32), t.1 = s.1 → (∀ k, ¬ k = 0 → t.2.2.1 k = s.2.2.1 k) → t.2.2.2 = s.2.2.2 → (∀ i, ¬ (176 + 8 * z3.toInt.toNat ≤ i ∧ i < 176 + 8 * z3.toInt.toNat + 8) → t.2.2.1 0 i = s.2.2.1 0 i) → (∀ j : Nat, (j : Int) < z4.toInt → t.2.2.1 0 (176 + 8 * z3.toInt.toNat + j) = 0) → 0 ≤ z4.toInt ∧ z4.toInt ≤ 8 → 8 - z4.toInt < (n : Int) → wp_X7_readsCells_L78 post e99 n t z1 z2 z3 z4 := by
  have e1 : (1 : Int32).toInt = 1 := rfl
  have e8 : (8 : Int32).toInt = 8 := rfl
  intro n
  induction n with
  | zero =>
    intro t z4 _ _ _ _ _ _ _
    exfalso
    omega
  | succ n ih =>
    intro t z4 a1 a2 a3 a4 a5 i2 i3
    unfold wp_X7_readsCells_L78
    refine ⟨fun c => ke t z4 a1 a2 a3 a4 (fun j hj => a5 j (by have := q_le c; omega)), fun c => ?_⟩
    have c2 := q_nle c
    have s1 := nw (tq_addr e1 z4) (by omega)
    have ix := ix_c (w := z4) hx (by omega)
    unfold wp_X7_sets
    rw [ix.1]
    refine ⟨vi (by omega) (by omega), ih _ _ a1 (fun k hk => ?_) a3 (fun i hi => ?_) (fun j hj => ?_) (by omega) (by omega)⟩
    · show (if k = 0 then _ else t.2.2.1 k) = _
      rw [if_neg hk]
      exact a2 k hk
    · show vp_updL (t.2.2.1 0) (176 + 8 * z3.toInt.toNat + z4.toInt.toNat) 0 i = _
      rw [ul_ne (by omega)]
      exact a4 i hi
    · show vp_updL (t.2.2.1 0) (176 + 8 * z3.toInt.toNat + z4.toInt.toNat) 0 (176 + 8 * z3.toInt.toNat + j) = 0
      by_cases e : j = z4.toInt.toNat
      · rw [e, ul_at]
      · rw [ul_ne (by omega)]
        exact a5 j (by omega)
theorem wq_X7_readsCells_L70 {post : Int32 → Md → Prop} {e116 : Md → Int32 → Int32 → Int32 → Prop} {N R W D : Int} {A : Nat → Int32} (hD : 0 < D) (ke : ∀ (t0 : Md) (z1 z2 z3 : Int32), mb N R W D t0 → ie [] t0.1 A → 0 ≤ z3.toInt ∧ z3.toInt ≤ z2.toInt + 1 ∧ z2.toInt ≤ 39 → 0 ≤ (t0.1 8).toInt ∧ (t0.1 8).toInt < D → e116 t0 z1 z2 z3) : ∀ (n : Nat) (t0 : Md) (z1 z2 z3 : Int32), mb N R W D t0 → ie [] t0.1 A → 0 ≤ z3.toInt ∧ z3.toInt ≤ z2.toInt + 1 ∧ z2.toInt ≤ 39 → 0 ≤ (t0.1 8).toInt ∧ (t0.1 8).toInt < D → z2.toInt - z3.toInt + 1 < (n : Int) → wp_X7_readsCells_L70 post e116 n t0 z1 z2 z3 := by
  have e0 : (0 : Int32).toInt = 0 := rfl
  have e1 : (1 : Int32).toInt = 1 := rfl
  intro n
  induction n with
  | zero =>
    intro t z1 z2 z3 _ _ _ _ _
    exfalso
    omega
  | succ n ih =>
    intro t z1 z2 z3 h j i1 i2 i3
    unfold wp_X7_readsCells_L70
    refine ⟨fun c => ke t z1 z2 z3 h j i1 i2, fun c => ?_⟩
    have c2 := q_nlt c
    have pd := h.2.2.2.1
    have s1 := nw (tq_addr e1 z3) (by omega)
    obtain ⟨nf, hf⟩ := fu_e 50
    refine ⟨nf, wq_X7_readsCells_L78 (s := t) (by omega) (fun u z4 b1 b2 b3 b4 b5 => ?_) nf t 0 rfl (fun _ _ => rfl) rfl (fun _ _ => rfl) (fun k hk => by omega) (by omega) (by omega)⟩
    have u8 : (u.1 8).toInt = (t.1 8).toInt := by rw [b1]
    have ix := ix_c (x := z3) (w := 0) (by omega) (by omega)
    have iz : Int32.toNatClampNeg ((176 + (8 * z3)) + (0 : Int32)) = 176 + 8 * z3.toInt.toNat + 0 := ix.1
    have v := tq_64 (u.1 8)
    unfold wp_X7_sets
    rw [iz]
    generalize Int32.toInt64 (u.1 8) = w at v ⊢
    have hz : ∀ jj, 1 ≤ jj → jj ≤ 4 → c_f (vp_updL (u.2.2.1 0) (176 + 8 * z3.toInt.toNat + 0) w) z3.toInt.toNat jj = 0 := fun jj g1 g2 => by
      rw [c_ne (by omega)]
      unfold c_f
      rw [b5 jj (by omega)]
      rfl
    have hz0 : c_f (vp_updL (u.2.2.1 0) (176 + 8 * z3.toInt.toNat + 0) w) z3.toInt.toNat 0 = w.toInt := c_at
    have rr : rw_ok R W D (vp_updL (u.2.2.1 0) (176 + 8 * z3.toInt.toNat + 0) w) := by
      refine rw_cellG (c := z3.toInt.toNat) h.2.2.2.2.1 (fun i _ hn => ?_) (fun l => ?_)
      · rw [ul_ne (by omega)]
        exact b4 i hn
      · unfold rw_c
        rw [hz 1 (by omega) (by omega), hz 2 (by omega) (by omega), hz 3 (by omega) (by omega), hz 4 (by omega) (by omega), hz0]
        have dd : d_f (vp_updL (u.2.2.1 0) (176 + 8 * z3.toInt.toNat + 0) w) w.toInt.toNat = d_f (t.2.2.1 0) w.toInt.toNat := by
          rw [d_ne (by omega)]
          unfold d_f
          rw [b4 _ (by omega)]
        rw [dd]
        have := h.2.2.2.2.1.2.2.2.2.2.2.1 w.toInt.toNat (by omega)
        refine ⟨by omega, fun g => by omega, fun g => by omega⟩
    refine ⟨vi (by omega) (by omega), ih _ _ _ _ (mb_nowD h (by show u.1 5 = _; rw [b1]) (by show u.1 0 = _; rw [b1]) (fun k hk => ?_) (by show u.2.2.2 0 = _; rw [b3]) rr) (by show ie [] u.1 A; rw [b1]; exact j) (by omega) (by show 0 ≤ (u.1 8).toInt ∧ (u.1 8).toInt < D; omega) (by omega)⟩
    show (if k = 0 then _ else u.2.2.1 k) = _
    rw [if_neg hk]
    exact b2 k hk
theorem wq_X7_readsCells {post : Int32 → Md → Prop} {s0 : Md} {N R W D : Int} (h103095 : mb (N) (R) (W) (D) s0) (h103096 : 0 < D) (h103097 : 0 ≤ (s0.1 6).toInt ∧ (s0.1 6).toInt + 5 ≤ N) (k : ∀ (r : Int32) (u : Md), mb (N) (R) (W) (D) u → ie [1, 2, 6, 7, 8, 9, 10, 11, 12, 13] u.1 s0.1 → (r).toInt = 0 ∨ (r).toInt = 1 → (s0.1 6).toInt ≤ (u.1 6).toInt ∧ (u.1 6).toInt ≤ N → post r u) : wp_X7_readsCells post s0 := by
  unfold wp_X7_readsCells
  have := h103095.1
  have := h103095.2.1
  have := h103095.2.2.1
  have := h103095.2.2.2.1
  have p103098 : (s0.1 5).toInt = N := by omega
  have p103099 : 0 ≤ (s0.1 0).toInt ∧ (s0.1 0).toInt ≤ 10 := by omega
  have p103100 : 0 ≤ N ∧ N ≤ 400 := by omega
  have p103101 : 0 ≤ R ∧ R ≤ 6 ∧ 0 ≤ W ∧ W ≤ 10 ∧ 0 ≤ R * W ∧ R * W ≤ 40 ∧ 0 ≤ D ∧ D ≤ 4 ∧ (D ≤ 0 ∨ 1 ≤ R) ∧ (1 ≤ R ∨ R * W = 0) := by omega
  have B103102 : mb (N) (R) (W) (D) ((va_up s0.1 6 ((s0.1 6) + 5)), s0.2.1, s0.2.2.1, s0.2.2.2) := ⟨p103098, p103099, p103100, p103101, h103095.2.2.2.2.1, h103095.2.2.2.2.2.1, h103095.2.2.2.2.2.2.1, h103095.2.2.2.2.2.2.2⟩
  refine wq_X7_cells B103102 (fun r_1 q103103 => ?_)
  replace q103103 : (r_1).toInt = R * W := q103103
  have e103104 := tq_addr li_5 (s0.1 6)
  try rw [Int.emod_eq_of_lt (show 0 ≤ (s0.1 6).toInt + 5 + 2147483648 by omega) (show (s0.1 6).toInt + 5 + 2147483648 < 4294967296 by omega)] at e103104
  have p103105 : 0 ≤ ((s0.1 6) + 5).toInt ∧ ((s0.1 6) + 5).toInt ≤ N := by omega
  refine wq_X7_readsNumber B103102 p103105 (fun r_3 u_4 q103106 q103107 q103108 q103109 q103110 q103111 => ?_)
  have := q103106.1
  have := q103106.2.1
  replace q103108 : (r_3).toInt = 0 ∨ (r_3).toInt = 1 := q103108
  replace q103109 : ((s0.1 6) + 5).toInt ≤ (u_4.1 6).toInt ∧ (u_4.1 6).toInt ≤ N := q103109
  replace q103110 : (r_3).toInt = 0 ∨ (((0 : Int32)).toInt ≤ (u_4.1 8).toInt ∧ (u_4.1 8).toInt ≤ (r_1 - 1).toInt) := q103110
  try simp only [li_0] at q103110
  have e103112 := tq_subr li_1 r_1
  try rw [Int.emod_eq_of_lt (show 0 ≤ (r_1).toInt - 1 + 2147483648 by omega) (show (r_1).toInt - 1 + 2147483648 < 4294967296 by omega)] at e103112
  refine ⟨fun c103113 => ?_, fun c103114 => ?_⟩
  · replace c103113 := q_neq c103113
    rw [li_0] at c103113
    refine wq_X7_cells q103106 (fun r_6 q103115 => ?_)
    have p103116 : 0 ≤ (u_4.1 6).toInt ∧ (u_4.1 6).toInt ≤ N := by omega
    refine wq_X7_readsNumber q103106 p103116 (fun r_8 u_9 q103117 q103118 q103119 q103120 q103121 q103122 => ?_)
    have := q103117.1
    have := q103117.2.1
    have e103123 := tq_subr li_1 r_6
    try rw [Int.emod_eq_of_lt (show 0 ≤ (r_6).toInt - 1 + 2147483648 by omega) (show (r_6).toInt - 1 + 2147483648 < 4294967296 by omega)] at e103123
    refine ⟨fun c103124 => ?_, fun c103125 => ?_⟩
    · replace c103124 := q_neq c103124
      rw [li_0] at c103124
      refine wq_X7_drums q103117 (fun r_11 q103126 => ?_)
      have p103127 : 0 ≤ (u_9.1 6).toInt ∧ (u_9.1 6).toInt ≤ N := by omega
      refine wq_X7_readsNumber q103117 p103127 (fun r_13 u_14 q103128 q103129 q103130 q103131 q103132 q103133 => ?_)
      have := q103128.1
      have := q103128.2.1
      try simp only [li_0] at q103132
      have e103134 := tq_subr li_1 r_11
      try rw [Int.emod_eq_of_lt (show 0 ≤ (r_11).toInt - 1 + 2147483648 by omega) (show (r_11).toInt - 1 + 2147483648 < 4294967296 by omega)] at e103134
      refine ⟨fun c103135 => ?_, fun c103136 => ?_⟩
      · replace c103135 := q_neq c103135
        rw [li_0] at c103135
        have p103137 : 0 < D := by omega
        have p103138 : ie [] u_14.1 u_14.1 := (ie_refl _ _)
        have p103139 : 0 ≤ (u_4.1 8).toInt ∧ (u_4.1 8).toInt ≤ (u_9.1 8).toInt + 1 ∧ (u_9.1 8).toInt ≤ 39 := by omega
        have p103140 : 0 ≤ (u_14.1 8).toInt ∧ (u_14.1 8).toInt < D := by omega
        obtain ⟨f103141, g103142⟩ := fu_e 50
        have p103143 : (u_9.1 8).toInt - (u_4.1 8).toInt + 1 < (f103141 : Int) := by (omega)
        refine ⟨f103141, wq_X7_readsCells_L70 p103137 (fun t0 z1 z2 z3 q103144 q103145 q103146 q103147 => ?_) f103141 _ _ _ _ q103128 p103138 p103139 p103140 p103143⟩
        have := q103144.1
        have := q103144.2.1
        have : (t0.1 8).toInt = (u_14.1 8).toInt := ie_i q103145 8 (by decide)
        have p103148 : ie [1, 2, 6, 7, 8, 9, 10, 11, 12, 13] t0.1 s0.1 := (ie_tr q103145 (by decide) (ie_tr q103129 (by decide) (ie_tr q103118 (by decide) (ie_tr q103107 (by decide) (ie_up (ie_refl _ _) (by decide))))))
        have p103149 : (1 : Int32).toInt = 0 ∨ (1 : Int32).toInt = 1 := by (have := li_1; omega)
        have : (t0.1 6).toInt = (u_14.1 6).toInt := ie_i q103145 6 (by decide)
        have p103150 : (s0.1 6).toInt ≤ (t0.1 6).toInt ∧ (t0.1 6).toInt ≤ N := by omega
        exact k _ _ q103144 p103148 p103149 p103150
      · replace c103136 := q_eq c103136
        rw [li_0] at c103136
        have p103151 : ie [1, 2, 6, 7, 8, 9, 10, 11, 12, 13] u_14.1 s0.1 := (ie_tr q103129 (by decide) (ie_tr q103118 (by decide) (ie_tr q103107 (by decide) (ie_up (ie_refl _ _) (by decide)))))
        have p103152 : (0 : Int32).toInt = 0 ∨ (0 : Int32).toInt = 1 := by (have := li_0; omega)
        have p103153 : (s0.1 6).toInt ≤ (u_14.1 6).toInt ∧ (u_14.1 6).toInt ≤ N := by omega
        exact k _ _ q103128 p103151 p103152 p103153
    · replace c103125 := q_eq c103125
      rw [li_0] at c103125
      have p103154 : ie [1, 2, 6, 7, 8, 9, 10, 11, 12, 13] u_9.1 s0.1 := (ie_tr q103118 (by decide) (ie_tr q103107 (by decide) (ie_up (ie_refl _ _) (by decide))))
      have p103155 : (0 : Int32).toInt = 0 ∨ (0 : Int32).toInt = 1 := by (have := li_0; omega)
      have p103156 : (s0.1 6).toInt ≤ (u_9.1 6).toInt ∧ (u_9.1 6).toInt ≤ N := by omega
      exact k _ _ q103117 p103154 p103155 p103156
  · replace c103114 := q_eq c103114
    rw [li_0] at c103114
    have p103157 : ie [1, 2, 6, 7, 8, 9, 10, 11, 12, 13] u_4.1 s0.1 := (ie_tr q103107 (by decide) (ie_up (ie_refl _ _) (by decide)))
    have p103158 : (0 : Int32).toInt = 0 ∨ (0 : Int32).toInt = 1 := by (have := li_0; omega)
    have p103159 : (s0.1 6).toInt ≤ (u_4.1 6).toInt ∧ (u_4.1 6).toInt ≤ N := by omega
    exact k _ _ q103106 p103157 p103158 p103159
theorem wq_X7_readsPart {post : Int32 → Md → Prop} {s0 : Md} {N R W D : Int} (h103160 : mb (N) (R) (W) (D) s0) (h103161 : 1 ≤ R) (h103162 : 1 ≤ ((s0.2.2.1 0) 2).toInt) (h103163 : 0 ≤ (s0.1 6).toInt ∧ (s0.1 6).toInt ≤ N) (k : ∀ (r : Int32) (u : Md) (D4 : Int), mb (N) (R) (W) (D4) u → (r).toInt = 0 ∨ (r).toInt = 1 → (s0.1 6).toInt ≤ (u.1 6).toInt ∧ (u.1 6).toInt ≤ N → (r).toInt = 0 ∨ 0 < D4 → post r u) : wp_X7_readsPart post s0 := by
  unfold wp_X7_readsPart
  have := h103160.1
  have := h103160.2.1
  have := h103160.2.2.1
  have := h103160.2.2.2.1
  have p103164 : 0 ≤ (s0.1 6).toInt ∧ (s0.1 6).toInt ≤ N := by omega
  have p103165 : 1 ≤ ln 2 ∧ ln 2 ≤ 9 := by first | assumption | decide
  refine wq_X7_isWord h103160 p103164 p103165 (fun r_1 u_2 q103166 q103167 q103168 q103169 q103170 q103171 => ?_)
  have := q103166.1
  have := q103166.2.1
  refine ⟨fun c103172 => ?_, fun c103173 => ?_⟩
  · replace c103172 := q_eq c103172
    rw [li_0] at c103172
    have p103174 : 0 ≤ (u_2.1 6).toInt ∧ (u_2.1 6).toInt ≤ N := by omega
    have p103175 : 1 ≤ ln 3 ∧ ln 3 ≤ 9 := by first | assumption | decide
    refine wq_X7_isWord q103166 p103174 p103175 (fun r_4 u_5 q103176 q103177 q103178 q103179 q103180 q103181 => ?_)
    have := q103176.1
    have := q103176.2.1
    refine ⟨fun c103182 => ?_, fun c103183 => ?_⟩
    · replace c103182 := q_neq c103182
      rw [li_0] at c103182
      refine wq_X7_drums q103176 (fun r_7 q103184 => ?_)
      refine ⟨fun c103185 => ?_, fun c103186 => ?_⟩
      · replace c103185 := q_neq c103185
        rw [li_0] at c103185
        have p103187 : 0 ≤ (u_5.1 6).toInt ∧ (u_5.1 6).toInt ≤ N := by omega
        have p103188 : 1 ≤ ln 3 ∧ ln 3 ≤ 9 := by first | assumption | decide
        refine wq_X7_isWord q103176 p103187 p103188 (fun r_10 u_11 q103189 q103190 q103191 q103192 q103193 q103194 => ?_)
        have := q103189.1
        have := q103189.2.1
        refine ⟨fun c103195 => ?_, fun c103196 => ?_⟩
        · replace c103195 := q_eq c103195
          rw [li_0] at c103195
          have p103197 : 0 ≤ (u_11.1 6).toInt ∧ (u_11.1 6).toInt ≤ N := by omega
          have p103198 : 1 ≤ ln 4 ∧ ln 4 ≤ 9 := by first | assumption | decide
          refine wq_X7_isWord q103189 p103197 p103198 (fun r_13 u_14 q103199 q103200 q103201 q103202 q103203 q103204 => ?_)
          have := q103199.1
          have := q103199.2.1
          refine ⟨fun c103205 => ?_, fun c103206 => ?_⟩
          · replace c103205 := q_eq c103205
            rw [li_0] at c103205
            have p103207 : 0 ≤ (u_14.1 6).toInt ∧ (u_14.1 6).toInt ≤ N := by omega
            have p103208 : 1 ≤ ln 5 ∧ ln 5 ≤ 9 := by first | assumption | decide
            refine wq_X7_isWord q103199 p103207 p103208 (fun r_16 u_17 q103209 q103210 q103211 q103212 q103213 q103214 => ?_)
            have := q103209.1
            have := q103209.2.1
            refine ⟨fun c103215 => ?_, fun c103216 => ?_⟩
            · replace c103215 := q_eq c103215
              rw [li_0] at c103215
              have p103217 : 0 ≤ (u_17.1 6).toInt ∧ (u_17.1 6).toInt + 4 ≤ N := by omega
              refine wq_X7_readsLose q103209 p103217 (fun r_19 u_20 q103218 q103219 q103220 q103221 q103222 => ?_)
              have := q103218.1
              have := q103218.2.1
              refine ⟨fun c103223 => ?_, fun c103224 => ?_⟩
              · replace c103223 := q_neq c103223
                rw [li_0] at c103223
                have p103225 : 0 ≤ (u_20.1 12).toInt ∧ (u_20.1 12).toInt < 40 := by omega
                have := tq_64 (u_20.1 8)
                have p103226 : 0 ≤ (Int32.toInt64 (u_20.1 8)).toInt ∧ (Int32.toInt64 (u_20.1 8)).toInt ≤ 9 := by omega
                refine wq_X7_sets_4 q103218 p103225 p103226 (fun u_23 q103227 q103228 q103229 => ?_)
                have := q103227.1
                have := q103227.2.1
                have p103230 : (1 : Int32).toInt = 0 ∨ (1 : Int32).toInt = 1 := by (have := li_1; omega)
                have : (u_23.1 6).toInt = (u_20.1 6).toInt := ie_i q103228 6 (by decide)
                have p103231 : (s0.1 6).toInt ≤ (u_23.1 6).toInt ∧ (u_23.1 6).toInt ≤ N := by omega
                have p103232 : (1 : Int32).toInt = 0 ∨ 0 < D := by (have := li_1; omega)
                exact k _ _ (D) q103227 p103230 p103231 p103232
              · replace c103224 := q_eq c103224
                rw [li_0] at c103224
                have p103233 : (0 : Int32).toInt = 0 ∨ (0 : Int32).toInt = 1 := by (have := li_0; omega)
                have p103234 : (s0.1 6).toInt ≤ (u_20.1 6).toInt ∧ (u_20.1 6).toInt ≤ N := by omega
                have p103235 : (0 : Int32).toInt = 0 ∨ 0 < D := by (have := li_0; omega)
                exact k _ _ (D) q103218 p103233 p103234 p103235
            · replace c103216 := q_neq c103216
              rw [li_0] at c103216
              have p103236 : 0 < D := by omega
              have p103237 : 0 ≤ (u_17.1 6).toInt ∧ (u_17.1 6).toInt + 3 ≤ N := by omega
              refine wq_X7_readsRow q103209 p103236 p103237 (fun r_24 u_25 q103238 q103239 q103240 q103241 => ?_)
              have := q103238.1
              have := q103238.2.1
              refine ⟨(nb_b (by omega)), ?_⟩
              have p103242 : (r_24).toInt = 0 ∨ (r_24).toInt = 1 := by omega
              have p103243 : (s0.1 6).toInt ≤ (u_25.1 6).toInt ∧ (u_25.1 6).toInt ≤ N := by omega
              have p103244 : (r_24).toInt = 0 ∨ 0 < D := by omega
              exact k _ _ (D) q103238 p103242 p103243 p103244
          · replace c103206 := q_neq c103206
            rw [li_0] at c103206
            have p103245 : 0 < D := by omega
            have p103246 : R ≤ 0 ∨ 0 < D := by omega
            have p103247 : 0 ≤ (u_14.1 6).toInt ∧ (u_14.1 6).toInt + 4 ≤ N := by omega
            refine wq_X7_readsWorn q103199 p103245 p103246 p103247 (fun r_27 u_28 q103248 q103249 q103250 q103251 => ?_)
            have := q103248.1
            have := q103248.2.1
            refine ⟨(nb_b (by omega)), ?_⟩
            have p103252 : (r_27).toInt = 0 ∨ (r_27).toInt = 1 := by omega
            have p103253 : (s0.1 6).toInt ≤ (u_28.1 6).toInt ∧ (u_28.1 6).toInt ≤ N := by omega
            have p103254 : (r_27).toInt = 0 ∨ 0 < D := by omega
            exact k _ _ (D) q103248 p103252 p103253 p103254
        · replace c103196 := q_neq c103196
          rw [li_0] at c103196
          have p103255 : 0 < D := by omega
          have p103256 : 0 ≤ (u_11.1 6).toInt ∧ (u_11.1 6).toInt + 5 ≤ N := by omega
          refine wq_X7_readsCells q103189 p103255 p103256 (fun r_30 u_31 q103257 q103258 q103259 q103260 => ?_)
          have := q103257.1
          have := q103257.2.1
          refine ⟨(nb_b (by omega)), ?_⟩
          have p103261 : (r_30).toInt = 0 ∨ (r_30).toInt = 1 := by omega
          have p103262 : (s0.1 6).toInt ≤ (u_31.1 6).toInt ∧ (u_31.1 6).toInt ≤ N := by omega
          have p103263 : (r_30).toInt = 0 ∨ 0 < D := by omega
          exact k _ _ (D) q103257 p103261 p103262 p103263
      · replace c103186 := q_eq c103186
        rw [li_0] at c103186
        refine wq_X7_fails q103176 (fun r_33 u_34 q103264 q103265 q103266 q103267 => ?_)
        have := q103264.1
        have := q103264.2.1
        refine ⟨(nb_b (by omega)), ?_⟩
        have p103268 : (r_33).toInt = 0 ∨ (r_33).toInt = 1 := by omega
        have : (u_34.1 6).toInt = (u_5.1 6).toInt := ie_i q103265 6 (by decide)
        have p103269 : (s0.1 6).toInt ≤ (u_34.1 6).toInt ∧ (u_34.1 6).toInt ≤ N := by omega
        have p103270 : (r_33).toInt = 0 ∨ 0 < D := by omega
        exact k _ _ (D) q103264 p103268 p103269 p103270
    · replace c103183 := q_eq c103183
      rw [li_0] at c103183
      have p103271 : 0 ≤ (u_5.1 6).toInt ∧ (u_5.1 6).toInt ≤ N := by omega
      have p103272 : 1 ≤ ln 4 ∧ ln 4 ≤ 9 := by first | assumption | decide
      refine wq_X7_isWord q103176 p103271 p103272 (fun r_36 u_37 q103273 q103274 q103275 q103276 q103277 q103278 => ?_)
      have := q103273.1
      have := q103273.2.1
      refine ⟨fun c103279 => ?_, fun c103280 => ?_⟩
      · replace c103279 := q_neq c103279
        rw [li_0] at c103279
        refine wq_X7_drums q103273 (fun r_39 q103281 => ?_)
        refine ⟨fun c103282 => ?_, fun c103283 => ?_⟩
        · replace c103282 := q_neq c103282
          rw [li_0] at c103282
          have p103284 : 0 ≤ (u_37.1 6).toInt ∧ (u_37.1 6).toInt ≤ N := by omega
          have p103285 : 1 ≤ ln 3 ∧ ln 3 ≤ 9 := by first | assumption | decide
          refine wq_X7_isWord q103273 p103284 p103285 (fun r_42 u_43 q103286 q103287 q103288 q103289 q103290 q103291 => ?_)
          have := q103286.1
          have := q103286.2.1
          refine ⟨fun c103292 => ?_, fun c103293 => ?_⟩
          · replace c103292 := q_eq c103292
            rw [li_0] at c103292
            have p103294 : 0 ≤ (u_43.1 6).toInt ∧ (u_43.1 6).toInt ≤ N := by omega
            have p103295 : 1 ≤ ln 4 ∧ ln 4 ≤ 9 := by first | assumption | decide
            refine wq_X7_isWord q103286 p103294 p103295 (fun r_45 u_46 q103296 q103297 q103298 q103299 q103300 q103301 => ?_)
            have := q103296.1
            have := q103296.2.1
            refine ⟨fun c103302 => ?_, fun c103303 => ?_⟩
            · replace c103302 := q_eq c103302
              rw [li_0] at c103302
              have p103304 : 0 ≤ (u_46.1 6).toInt ∧ (u_46.1 6).toInt ≤ N := by omega
              have p103305 : 1 ≤ ln 5 ∧ ln 5 ≤ 9 := by first | assumption | decide
              refine wq_X7_isWord q103296 p103304 p103305 (fun r_48 u_49 q103306 q103307 q103308 q103309 q103310 q103311 => ?_)
              have := q103306.1
              have := q103306.2.1
              refine ⟨fun c103312 => ?_, fun c103313 => ?_⟩
              · replace c103312 := q_eq c103312
                rw [li_0] at c103312
                have p103314 : 0 ≤ (u_49.1 6).toInt ∧ (u_49.1 6).toInt + 4 ≤ N := by omega
                refine wq_X7_readsLose q103306 p103314 (fun r_51 u_52 q103315 q103316 q103317 q103318 q103319 => ?_)
                have := q103315.1
                have := q103315.2.1
                refine ⟨fun c103320 => ?_, fun c103321 => ?_⟩
                · replace c103320 := q_neq c103320
                  rw [li_0] at c103320
                  have p103322 : 0 ≤ (u_52.1 12).toInt ∧ (u_52.1 12).toInt < 40 := by omega
                  have := tq_64 (u_52.1 8)
                  have p103323 : 0 ≤ (Int32.toInt64 (u_52.1 8)).toInt ∧ (Int32.toInt64 (u_52.1 8)).toInt ≤ 9 := by omega
                  refine wq_X7_sets_4 q103315 p103322 p103323 (fun u_55 q103324 q103325 q103326 => ?_)
                  have := q103324.1
                  have := q103324.2.1
                  have p103327 : (1 : Int32).toInt = 0 ∨ (1 : Int32).toInt = 1 := by (have := li_1; omega)
                  have : (u_55.1 6).toInt = (u_52.1 6).toInt := ie_i q103325 6 (by decide)
                  have p103328 : (s0.1 6).toInt ≤ (u_55.1 6).toInt ∧ (u_55.1 6).toInt ≤ N := by omega
                  have p103329 : (1 : Int32).toInt = 0 ∨ 0 < D := by (have := li_1; omega)
                  exact k _ _ (D) q103324 p103327 p103328 p103329
                · replace c103321 := q_eq c103321
                  rw [li_0] at c103321
                  have p103330 : (0 : Int32).toInt = 0 ∨ (0 : Int32).toInt = 1 := by (have := li_0; omega)
                  have p103331 : (s0.1 6).toInt ≤ (u_52.1 6).toInt ∧ (u_52.1 6).toInt ≤ N := by omega
                  have p103332 : (0 : Int32).toInt = 0 ∨ 0 < D := by (have := li_0; omega)
                  exact k _ _ (D) q103315 p103330 p103331 p103332
              · replace c103313 := q_neq c103313
                rw [li_0] at c103313
                have p103333 : 0 < D := by omega
                have p103334 : 0 ≤ (u_49.1 6).toInt ∧ (u_49.1 6).toInt + 3 ≤ N := by omega
                refine wq_X7_readsRow q103306 p103333 p103334 (fun r_56 u_57 q103335 q103336 q103337 q103338 => ?_)
                have := q103335.1
                have := q103335.2.1
                refine ⟨(nb_b (by omega)), ?_⟩
                have p103339 : (r_56).toInt = 0 ∨ (r_56).toInt = 1 := by omega
                have p103340 : (s0.1 6).toInt ≤ (u_57.1 6).toInt ∧ (u_57.1 6).toInt ≤ N := by omega
                have p103341 : (r_56).toInt = 0 ∨ 0 < D := by omega
                exact k _ _ (D) q103335 p103339 p103340 p103341
            · replace c103303 := q_neq c103303
              rw [li_0] at c103303
              have p103342 : 0 < D := by omega
              have p103343 : R ≤ 0 ∨ 0 < D := by omega
              have p103344 : 0 ≤ (u_46.1 6).toInt ∧ (u_46.1 6).toInt + 4 ≤ N := by omega
              refine wq_X7_readsWorn q103296 p103342 p103343 p103344 (fun r_59 u_60 q103345 q103346 q103347 q103348 => ?_)
              have := q103345.1
              have := q103345.2.1
              refine ⟨(nb_b (by omega)), ?_⟩
              have p103349 : (r_59).toInt = 0 ∨ (r_59).toInt = 1 := by omega
              have p103350 : (s0.1 6).toInt ≤ (u_60.1 6).toInt ∧ (u_60.1 6).toInt ≤ N := by omega
              have p103351 : (r_59).toInt = 0 ∨ 0 < D := by omega
              exact k _ _ (D) q103345 p103349 p103350 p103351
          · replace c103293 := q_neq c103293
            rw [li_0] at c103293
            have p103352 : 0 < D := by omega
            have p103353 : 0 ≤ (u_43.1 6).toInt ∧ (u_43.1 6).toInt + 5 ≤ N := by omega
            refine wq_X7_readsCells q103286 p103352 p103353 (fun r_62 u_63 q103354 q103355 q103356 q103357 => ?_)
            have := q103354.1
            have := q103354.2.1
            refine ⟨(nb_b (by omega)), ?_⟩
            have p103358 : (r_62).toInt = 0 ∨ (r_62).toInt = 1 := by omega
            have p103359 : (s0.1 6).toInt ≤ (u_63.1 6).toInt ∧ (u_63.1 6).toInt ≤ N := by omega
            have p103360 : (r_62).toInt = 0 ∨ 0 < D := by omega
            exact k _ _ (D) q103354 p103358 p103359 p103360
        · replace c103283 := q_eq c103283
          rw [li_0] at c103283
          refine wq_X7_fails q103273 (fun r_65 u_66 q103361 q103362 q103363 q103364 => ?_)
          have := q103361.1
          have := q103361.2.1
          refine ⟨(nb_b (by omega)), ?_⟩
          have p103365 : (r_65).toInt = 0 ∨ (r_65).toInt = 1 := by omega
          have : (u_66.1 6).toInt = (u_37.1 6).toInt := ie_i q103362 6 (by decide)
          have p103366 : (s0.1 6).toInt ≤ (u_66.1 6).toInt ∧ (u_66.1 6).toInt ≤ N := by omega
          have p103367 : (r_65).toInt = 0 ∨ 0 < D := by omega
          exact k _ _ (D) q103361 p103365 p103366 p103367
      · replace c103280 := q_eq c103280
        rw [li_0] at c103280
        have p103368 : 0 ≤ (u_37.1 6).toInt ∧ (u_37.1 6).toInt ≤ N := by omega
        have p103369 : 1 ≤ ln 5 ∧ ln 5 ≤ 9 := by first | assumption | decide
        refine wq_X7_isWord q103273 p103368 p103369 (fun r_68 u_69 q103370 q103371 q103372 q103373 q103374 q103375 => ?_)
        have := q103370.1
        have := q103370.2.1
        refine ⟨fun c103376 => ?_, fun c103377 => ?_⟩
        · replace c103376 := q_neq c103376
          rw [li_0] at c103376
          refine wq_X7_drums q103370 (fun r_71 q103378 => ?_)
          refine ⟨fun c103379 => ?_, fun c103380 => ?_⟩
          · replace c103379 := q_neq c103379
            rw [li_0] at c103379
            have p103381 : 0 ≤ (u_69.1 6).toInt ∧ (u_69.1 6).toInt ≤ N := by omega
            have p103382 : 1 ≤ ln 3 ∧ ln 3 ≤ 9 := by first | assumption | decide
            refine wq_X7_isWord q103370 p103381 p103382 (fun r_74 u_75 q103383 q103384 q103385 q103386 q103387 q103388 => ?_)
            have := q103383.1
            have := q103383.2.1
            refine ⟨fun c103389 => ?_, fun c103390 => ?_⟩
            · replace c103389 := q_eq c103389
              rw [li_0] at c103389
              have p103391 : 0 ≤ (u_75.1 6).toInt ∧ (u_75.1 6).toInt ≤ N := by omega
              have p103392 : 1 ≤ ln 4 ∧ ln 4 ≤ 9 := by first | assumption | decide
              refine wq_X7_isWord q103383 p103391 p103392 (fun r_77 u_78 q103393 q103394 q103395 q103396 q103397 q103398 => ?_)
              have := q103393.1
              have := q103393.2.1
              refine ⟨fun c103399 => ?_, fun c103400 => ?_⟩
              · replace c103399 := q_eq c103399
                rw [li_0] at c103399
                have p103401 : 0 ≤ (u_78.1 6).toInt ∧ (u_78.1 6).toInt ≤ N := by omega
                have p103402 : 1 ≤ ln 5 ∧ ln 5 ≤ 9 := by first | assumption | decide
                refine wq_X7_isWord q103393 p103401 p103402 (fun r_80 u_81 q103403 q103404 q103405 q103406 q103407 q103408 => ?_)
                have := q103403.1
                have := q103403.2.1
                refine ⟨fun c103409 => ?_, fun c103410 => ?_⟩
                · replace c103409 := q_eq c103409
                  rw [li_0] at c103409
                  have p103411 : 0 ≤ (u_81.1 6).toInt ∧ (u_81.1 6).toInt + 4 ≤ N := by omega
                  refine wq_X7_readsLose q103403 p103411 (fun r_83 u_84 q103412 q103413 q103414 q103415 q103416 => ?_)
                  have := q103412.1
                  have := q103412.2.1
                  refine ⟨fun c103417 => ?_, fun c103418 => ?_⟩
                  · replace c103417 := q_neq c103417
                    rw [li_0] at c103417
                    have p103419 : 0 ≤ (u_84.1 12).toInt ∧ (u_84.1 12).toInt < 40 := by omega
                    have := tq_64 (u_84.1 8)
                    have p103420 : 0 ≤ (Int32.toInt64 (u_84.1 8)).toInt ∧ (Int32.toInt64 (u_84.1 8)).toInt ≤ 9 := by omega
                    refine wq_X7_sets_4 q103412 p103419 p103420 (fun u_87 q103421 q103422 q103423 => ?_)
                    have := q103421.1
                    have := q103421.2.1
                    have p103424 : (1 : Int32).toInt = 0 ∨ (1 : Int32).toInt = 1 := by (have := li_1; omega)
                    have : (u_87.1 6).toInt = (u_84.1 6).toInt := ie_i q103422 6 (by decide)
                    have p103425 : (s0.1 6).toInt ≤ (u_87.1 6).toInt ∧ (u_87.1 6).toInt ≤ N := by omega
                    have p103426 : (1 : Int32).toInt = 0 ∨ 0 < D := by (have := li_1; omega)
                    exact k _ _ (D) q103421 p103424 p103425 p103426
                  · replace c103418 := q_eq c103418
                    rw [li_0] at c103418
                    have p103427 : (0 : Int32).toInt = 0 ∨ (0 : Int32).toInt = 1 := by (have := li_0; omega)
                    have p103428 : (s0.1 6).toInt ≤ (u_84.1 6).toInt ∧ (u_84.1 6).toInt ≤ N := by omega
                    have p103429 : (0 : Int32).toInt = 0 ∨ 0 < D := by (have := li_0; omega)
                    exact k _ _ (D) q103412 p103427 p103428 p103429
                · replace c103410 := q_neq c103410
                  rw [li_0] at c103410
                  have p103430 : 0 < D := by omega
                  have p103431 : 0 ≤ (u_81.1 6).toInt ∧ (u_81.1 6).toInt + 3 ≤ N := by omega
                  refine wq_X7_readsRow q103403 p103430 p103431 (fun r_88 u_89 q103432 q103433 q103434 q103435 => ?_)
                  have := q103432.1
                  have := q103432.2.1
                  refine ⟨(nb_b (by omega)), ?_⟩
                  have p103436 : (r_88).toInt = 0 ∨ (r_88).toInt = 1 := by omega
                  have p103437 : (s0.1 6).toInt ≤ (u_89.1 6).toInt ∧ (u_89.1 6).toInt ≤ N := by omega
                  have p103438 : (r_88).toInt = 0 ∨ 0 < D := by omega
                  exact k _ _ (D) q103432 p103436 p103437 p103438
              · replace c103400 := q_neq c103400
                rw [li_0] at c103400
                have p103439 : 0 < D := by omega
                have p103440 : R ≤ 0 ∨ 0 < D := by omega
                have p103441 : 0 ≤ (u_78.1 6).toInt ∧ (u_78.1 6).toInt + 4 ≤ N := by omega
                refine wq_X7_readsWorn q103393 p103439 p103440 p103441 (fun r_91 u_92 q103442 q103443 q103444 q103445 => ?_)
                have := q103442.1
                have := q103442.2.1
                refine ⟨(nb_b (by omega)), ?_⟩
                have p103446 : (r_91).toInt = 0 ∨ (r_91).toInt = 1 := by omega
                have p103447 : (s0.1 6).toInt ≤ (u_92.1 6).toInt ∧ (u_92.1 6).toInt ≤ N := by omega
                have p103448 : (r_91).toInt = 0 ∨ 0 < D := by omega
                exact k _ _ (D) q103442 p103446 p103447 p103448
            · replace c103390 := q_neq c103390
              rw [li_0] at c103390
              have p103449 : 0 < D := by omega
              have p103450 : 0 ≤ (u_75.1 6).toInt ∧ (u_75.1 6).toInt + 5 ≤ N := by omega
              refine wq_X7_readsCells q103383 p103449 p103450 (fun r_94 u_95 q103451 q103452 q103453 q103454 => ?_)
              have := q103451.1
              have := q103451.2.1
              refine ⟨(nb_b (by omega)), ?_⟩
              have p103455 : (r_94).toInt = 0 ∨ (r_94).toInt = 1 := by omega
              have p103456 : (s0.1 6).toInt ≤ (u_95.1 6).toInt ∧ (u_95.1 6).toInt ≤ N := by omega
              have p103457 : (r_94).toInt = 0 ∨ 0 < D := by omega
              exact k _ _ (D) q103451 p103455 p103456 p103457
          · replace c103380 := q_eq c103380
            rw [li_0] at c103380
            refine wq_X7_fails q103370 (fun r_97 u_98 q103458 q103459 q103460 q103461 => ?_)
            have := q103458.1
            have := q103458.2.1
            refine ⟨(nb_b (by omega)), ?_⟩
            have p103462 : (r_97).toInt = 0 ∨ (r_97).toInt = 1 := by omega
            have : (u_98.1 6).toInt = (u_69.1 6).toInt := ie_i q103459 6 (by decide)
            have p103463 : (s0.1 6).toInt ≤ (u_98.1 6).toInt ∧ (u_98.1 6).toInt ≤ N := by omega
            have p103464 : (r_97).toInt = 0 ∨ 0 < D := by omega
            exact k _ _ (D) q103458 p103462 p103463 p103464
        · replace c103377 := q_eq c103377
          rw [li_0] at c103377
          have p103465 : 0 ≤ (u_69.1 6).toInt ∧ (u_69.1 6).toInt ≤ N := by omega
          have p103466 : 1 ≤ ln 6 ∧ ln 6 ≤ 9 := by first | assumption | decide
          refine wq_X7_isWord q103370 p103465 p103466 (fun r_100 u_101 q103467 q103468 q103469 q103470 q103471 q103472 => ?_)
          have := q103467.1
          have := q103467.2.1
          refine ⟨fun c103473 => ?_, fun c103474 => ?_⟩
          · replace c103473 := q_eq c103473
            rw [li_0] at c103473
            refine wq_X7_fails q103467 (fun r_103 u_104 q103475 q103476 q103477 q103478 => ?_)
            have := q103475.1
            have := q103475.2.1
            refine ⟨(nb_b (by omega)), ?_⟩
            have p103479 : (r_103).toInt = 0 ∨ (r_103).toInt = 1 := by omega
            have : (u_104.1 6).toInt = (u_101.1 6).toInt := ie_i q103476 6 (by decide)
            have p103480 : (s0.1 6).toInt ≤ (u_104.1 6).toInt ∧ (u_104.1 6).toInt ≤ N := by omega
            have p103481 : (r_103).toInt = 0 ∨ 0 < D := by omega
            exact k _ _ (D) q103475 p103479 p103480 p103481
          · replace c103474 := q_neq c103474
            rw [li_0] at c103474
            refine wq_X7_drums q103467 (fun r_106 q103482 => ?_)
            refine ⟨fun c103483 => ?_, fun c103484 => ?_⟩
            · replace c103483 := q_neq c103483
              rw [li_0] at c103483
              have p103485 : 0 ≤ (u_101.1 6).toInt ∧ (u_101.1 6).toInt ≤ N := by omega
              have p103486 : 1 ≤ ln 3 ∧ ln 3 ≤ 9 := by first | assumption | decide
              refine wq_X7_isWord q103467 p103485 p103486 (fun r_109 u_110 q103487 q103488 q103489 q103490 q103491 q103492 => ?_)
              have := q103487.1
              have := q103487.2.1
              refine ⟨fun c103493 => ?_, fun c103494 => ?_⟩
              · replace c103493 := q_eq c103493
                rw [li_0] at c103493
                have p103495 : 0 ≤ (u_110.1 6).toInt ∧ (u_110.1 6).toInt ≤ N := by omega
                have p103496 : 1 ≤ ln 4 ∧ ln 4 ≤ 9 := by first | assumption | decide
                refine wq_X7_isWord q103487 p103495 p103496 (fun r_112 u_113 q103497 q103498 q103499 q103500 q103501 q103502 => ?_)
                have := q103497.1
                have := q103497.2.1
                refine ⟨fun c103503 => ?_, fun c103504 => ?_⟩
                · replace c103503 := q_eq c103503
                  rw [li_0] at c103503
                  have p103505 : 0 ≤ (u_113.1 6).toInt ∧ (u_113.1 6).toInt ≤ N := by omega
                  have p103506 : 1 ≤ ln 5 ∧ ln 5 ≤ 9 := by first | assumption | decide
                  refine wq_X7_isWord q103497 p103505 p103506 (fun r_115 u_116 q103507 q103508 q103509 q103510 q103511 q103512 => ?_)
                  have := q103507.1
                  have := q103507.2.1
                  refine ⟨fun c103513 => ?_, fun c103514 => ?_⟩
                  · replace c103513 := q_eq c103513
                    rw [li_0] at c103513
                    have p103515 : 0 ≤ (u_116.1 6).toInt ∧ (u_116.1 6).toInt + 4 ≤ N := by omega
                    refine wq_X7_readsLose q103507 p103515 (fun r_118 u_119 q103516 q103517 q103518 q103519 q103520 => ?_)
                    have := q103516.1
                    have := q103516.2.1
                    refine ⟨fun c103521 => ?_, fun c103522 => ?_⟩
                    · replace c103521 := q_neq c103521
                      rw [li_0] at c103521
                      have p103523 : 0 ≤ (u_119.1 12).toInt ∧ (u_119.1 12).toInt < 40 := by omega
                      have := tq_64 (u_119.1 8)
                      have p103524 : 0 ≤ (Int32.toInt64 (u_119.1 8)).toInt ∧ (Int32.toInt64 (u_119.1 8)).toInt ≤ 9 := by omega
                      refine wq_X7_sets_4 q103516 p103523 p103524 (fun u_122 q103525 q103526 q103527 => ?_)
                      have := q103525.1
                      have := q103525.2.1
                      have p103528 : (1 : Int32).toInt = 0 ∨ (1 : Int32).toInt = 1 := by (have := li_1; omega)
                      have : (u_122.1 6).toInt = (u_119.1 6).toInt := ie_i q103526 6 (by decide)
                      have p103529 : (s0.1 6).toInt ≤ (u_122.1 6).toInt ∧ (u_122.1 6).toInt ≤ N := by omega
                      have p103530 : (1 : Int32).toInt = 0 ∨ 0 < D := by (have := li_1; omega)
                      exact k _ _ (D) q103525 p103528 p103529 p103530
                    · replace c103522 := q_eq c103522
                      rw [li_0] at c103522
                      have p103531 : (0 : Int32).toInt = 0 ∨ (0 : Int32).toInt = 1 := by (have := li_0; omega)
                      have p103532 : (s0.1 6).toInt ≤ (u_119.1 6).toInt ∧ (u_119.1 6).toInt ≤ N := by omega
                      have p103533 : (0 : Int32).toInt = 0 ∨ 0 < D := by (have := li_0; omega)
                      exact k _ _ (D) q103516 p103531 p103532 p103533
                  · replace c103514 := q_neq c103514
                    rw [li_0] at c103514
                    have p103534 : 0 < D := by omega
                    have p103535 : 0 ≤ (u_116.1 6).toInt ∧ (u_116.1 6).toInt + 3 ≤ N := by omega
                    refine wq_X7_readsRow q103507 p103534 p103535 (fun r_123 u_124 q103536 q103537 q103538 q103539 => ?_)
                    have := q103536.1
                    have := q103536.2.1
                    refine ⟨(nb_b (by omega)), ?_⟩
                    have p103540 : (r_123).toInt = 0 ∨ (r_123).toInt = 1 := by omega
                    have p103541 : (s0.1 6).toInt ≤ (u_124.1 6).toInt ∧ (u_124.1 6).toInt ≤ N := by omega
                    have p103542 : (r_123).toInt = 0 ∨ 0 < D := by omega
                    exact k _ _ (D) q103536 p103540 p103541 p103542
                · replace c103504 := q_neq c103504
                  rw [li_0] at c103504
                  have p103543 : 0 < D := by omega
                  have p103544 : R ≤ 0 ∨ 0 < D := by omega
                  have p103545 : 0 ≤ (u_113.1 6).toInt ∧ (u_113.1 6).toInt + 4 ≤ N := by omega
                  refine wq_X7_readsWorn q103497 p103543 p103544 p103545 (fun r_126 u_127 q103546 q103547 q103548 q103549 => ?_)
                  have := q103546.1
                  have := q103546.2.1
                  refine ⟨(nb_b (by omega)), ?_⟩
                  have p103550 : (r_126).toInt = 0 ∨ (r_126).toInt = 1 := by omega
                  have p103551 : (s0.1 6).toInt ≤ (u_127.1 6).toInt ∧ (u_127.1 6).toInt ≤ N := by omega
                  have p103552 : (r_126).toInt = 0 ∨ 0 < D := by omega
                  exact k _ _ (D) q103546 p103550 p103551 p103552
              · replace c103494 := q_neq c103494
                rw [li_0] at c103494
                have p103553 : 0 < D := by omega
                have p103554 : 0 ≤ (u_110.1 6).toInt ∧ (u_110.1 6).toInt + 5 ≤ N := by omega
                refine wq_X7_readsCells q103487 p103553 p103554 (fun r_129 u_130 q103555 q103556 q103557 q103558 => ?_)
                have := q103555.1
                have := q103555.2.1
                refine ⟨(nb_b (by omega)), ?_⟩
                have p103559 : (r_129).toInt = 0 ∨ (r_129).toInt = 1 := by omega
                have p103560 : (s0.1 6).toInt ≤ (u_130.1 6).toInt ∧ (u_130.1 6).toInt ≤ N := by omega
                have p103561 : (r_129).toInt = 0 ∨ 0 < D := by omega
                exact k _ _ (D) q103555 p103559 p103560 p103561
            · replace c103484 := q_eq c103484
              rw [li_0] at c103484
              refine wq_X7_fails q103467 (fun r_132 u_133 q103562 q103563 q103564 q103565 => ?_)
              have := q103562.1
              have := q103562.2.1
              refine ⟨(nb_b (by omega)), ?_⟩
              have p103566 : (r_132).toInt = 0 ∨ (r_132).toInt = 1 := by omega
              have : (u_133.1 6).toInt = (u_101.1 6).toInt := ie_i q103563 6 (by decide)
              have p103567 : (s0.1 6).toInt ≤ (u_133.1 6).toInt ∧ (u_133.1 6).toInt ≤ N := by omega
              have p103568 : (r_132).toInt = 0 ∨ 0 < D := by omega
              exact k _ _ (D) q103562 p103566 p103567 p103568
  · replace c103173 := q_neq c103173
    rw [li_0] at c103173
    have p103569 : 1 ≤ R := by omega
    have p103570 : 1 ≤ ((u_2.2.2.1 0) 2).toInt := (lim_e q103171 h103162)
    have p103571 : 0 ≤ (u_2.1 6).toInt ∧ (u_2.1 6).toInt + 4 ≤ N := by omega
    refine wq_X7_readsDrum q103166 p103569 p103570 p103571 (fun r_135 u_136 D4103572 q103573 q103574 q103575 q103576 => ?_)
    have := q103573.1
    have := q103573.2.1
    have := q103573.2.2.2.1
    refine ⟨(nb_b (by omega)), ?_⟩
    have p103577 : (r_135).toInt = 0 ∨ (r_135).toInt = 1 := by omega
    have p103578 : (s0.1 6).toInt ≤ (u_136.1 6).toInt ∧ (u_136.1 6).toInt ≤ N := by omega
    have p103579 : (r_135).toInt = 0 ∨ 0 < D4103572 := by omega
    exact k _ _ (D4103572) q103573 p103577 p103578 p103579
