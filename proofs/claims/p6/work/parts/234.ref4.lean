theorem rk_congr {f g : Nat → Int64} (h : rk f) (e : ∀ i, i < 6896 → g i = f i) : rk g := by
  obtain ⟨R, W, D, h1, h2⟩ := h
  refine ⟨R, W, D, rw_congr h1 (fun i hi => e i ?_), h2⟩
  unfold rw_rel at hi
  omega
theorem rk_now {N R W D : Int} {s : Md} (h : mb N R W D s) (hs : R ≤ 0 ∨ 0 < D) : rk (s.2.2.1 0) := ⟨R, W, D, h.2.2.2.2.1, hs⟩
theorem ka_1 {post : Md → Prop} {s : Md} {N R W D : Int} (h : mb N R W D s) (hs : R ≤ 0 ∨ 0 < D) (hu : (s.1 0).toInt ≤ 9) (k : ∀ u : Md, mb N R W D u → ie [0] u.1 s.1 → u.2.1 = s.2.1 ∧ u.2.2.2 = s.2.2.2 ∧ u.2.2.1 0 = s.2.2.1 0 → post u) : ∃ n53, wp_X7_keepsAct_L53 post (fun t0 z1 => post ((va_up t0.1 0 ((t0.1 0) + 1)), t0.2.1, t0.2.2.1, t0.2.2.2)) n53 s 0 := by
  have e0 : (0 : Int32).toInt = 0 := rfl
  have e1 : (1 : Int32).toInt = 1 := rfl
  obtain ⟨a0, a1, a2, a3, a4, a5, a6, a7⟩ := id h
  obtain ⟨nf, hf⟩ := fu_e 7000
  refine ⟨nf, wq_X7_keepsAct_L53 (s := s) (by omega) (fun t z b1 b2 b3 b4 b5 b6 => ?_) nf s 0 rfl rfl rfl (fun _ _ => rfl) (fun i hi => ?_) (fun _ _ => rfl) (by omega) (by omega)⟩
  · have t0 : t.1 0 = s.1 0 := by rw [b1]
    have s1 := nw (tq_addr e1 (t.1 0)) (by rw [t0]; omega)
    rw [t0] at s1
    have r0 : t.2.2.1 0 = s.2.2.1 0 := b4 0 (by decide)
    refine k _ ⟨?_, ?_, a2, a3, ?_, fun kk hk => ?_, fun kk hk hn => ?_, ?_⟩ ?_ ⟨b2, b3, r0⟩
    · show (t.1 5).toInt = N
      rw [b1]
      exact a0
    · show 0 ≤ (t.1 0 + 1).toInt ∧ (t.1 0 + 1).toInt ≤ 10
      rw [t0]
      omega
    · show rw_ok R W D (t.2.2.1 0)
      rw [r0]
      exact a4
    · have hk2 : (kk : Int) < (t.1 0 + 1).toInt := hk
      rw [t0] at hk2
      show rk (fun i => t.2.2.1 1 (6896 * kk + i))
      by_cases e : kk = (s.1 0).toInt.toNat
      · subst e
        refine rk_congr (rk_now h hs) (fun i hi => ?_)
        rw [b5 i hi, Nat.zero_add]
      · refine rk_congr (a5 kk (by omega)) (fun i hi => ?_)
        rw [b6 _ (by omega)]
    · show rk (fun i => t.2.2.1 2 (6896 * kk + i))
      have hn2 : ¬ t.2.2.2 0 kk = 0 := hn
      rw [b4 2 (by decide)]
      rw [b3] at hn2
      exact a6 kk hk hn2
    · show rk (t.2.2.1 3)
      rw [b4 3 (by decide)]
      exact a7
    · intro j hj
      show (if j = 0 then _ else t.1 j) = _
      rw [if_neg (fun e => hj (by rw [e]; decide)), b1]
  · omega
theorem wq_X7_keepsAct_L13 {post : Md → Prop} {e41 : Md → Int32 → Prop} {s : Md} (ke : ∀ (t : Md) (z : Int32), t.1 = s.1 → t.2.1 = s.2.1 → t.2.2.2 = s.2.2.2 → (∀ j, ¬ j = 1 → t.2.2.1 j = s.2.2.1 j) → (∀ i : Nat, i < 62064 → t.2.2.1 1 i = s.2.2.1 1 (i + 6896)) → e41 t z) : ∀ (n : Nat) (t : Md) (z1 : Int32), t.1 = s.1 → t.2.1 = s.2.1 → t.2.2.2 = s.2.2.2 → (∀ j, ¬ j = 1 → t.2.2.1 j = s.2.2.1 j) → (∀ i : Nat, (i : Int) + 6896 < z1.toInt → t.2.2.1 1 i = s.2.2.1 1 (i + 6896)) → (∀ i : Nat, z1.toInt ≤ (i : Int) + 6896 → t.2.2.1 1 i = s.2.2.1 1 i) → 6896 ≤ z1.toInt ∧ z1.toInt ≤ 68960 → 68960 - z1.toInt < (n : Int) → wp_X7_keepsAct_L13 post e41 n t z1 := by
  have e1 : (1 : Int32).toInt = 1 := rfl
  have eR : (6896 : Int32).toInt = 6896 := rfl
  have eT : (68960 : Int32).toInt = 68960 := rfl
  intro n
  induction n with
  | zero =>
    intro t z1 _ _ _ _ _ _ _ _
    exfalso
    omega
  | succ n ih =>
    intro t z1 a1 a2 a3 a4 a5 a6 i2 i3
    unfold wp_X7_keepsAct_L13
    refine ⟨fun c => ke t z1 a1 a2 a3 a4 (fun i hi => a5 i (by have := q_le c; omega)), fun c => ?_⟩
    have c2 := q_nle c
    have s1 := nw (tq_addr e1 z1) (by omega)
    have m1 := nw (tq_subr eR z1) (by omega)
    have ix : Int32.toNatClampNeg (z1 - 6896) = z1.toInt.toNat - 6896 := by
      rw [tn_i]
      omega
    have iz : Int32.toNatClampNeg z1 = z1.toInt.toNat := tn_i z1
    refine ⟨vi (by omega) (by omega), vi (by omega) (by omega), ih _ _ a1 a2 a3 (fun j hj => ?_) (fun i hi => ?_) (fun i hi => ?_) (by omega) (by omega)⟩
    · show (if j = 1 then _ else t.2.2.1 j) = _
      rw [if_neg hj]
      exact a4 j hj
    · show vp_updL (t.2.2.1 1) (Int32.toNatClampNeg (z1 - 6896)) ((t.2.2.1 1) (Int32.toNatClampNeg z1)) i = _
      rw [ix, iz]
      by_cases e : i = z1.toInt.toNat - 6896
      · have e2 : z1.toInt.toNat - 6896 + 6896 = z1.toInt.toNat := by omega
        rw [e, ul_at, e2]
        exact a6 _ (by omega)
      · rw [ul_ne e]
        exact a5 i (by omega)
    · show vp_updL (t.2.2.1 1) (Int32.toNatClampNeg (z1 - 6896)) ((t.2.2.1 1) (Int32.toNatClampNeg z1)) i = _
      rw [ix, ul_ne (by omega)]
      exact a6 i (by omega)
theorem wq_X7_keepsAct {post : Md → Prop} {s0 : Md} {N R W D : Int} (h : mb N R W D s0) (hs : R ≤ 0 ∨ 0 < D) (k : ∀ u : Md, mb N R W D u → ie [0] u.1 s0.1 → u.2.1 = s0.2.1 ∧ u.2.2.2 = s0.2.2.2 ∧ u.2.2.1 0 = s0.2.2.1 0 → post u) : wp_X7_keepsAct post s0 := by
  unfold wp_X7_keepsAct
  have e10 : (10 : Int32).toInt = 10 := rfl
  have e1 : (1 : Int32).toInt = 1 := rfl
  have eR : (6896 : Int32).toInt = 6896 := rfl
  obtain ⟨a0, a1, a2, a3, a4, a5, a6, a7⟩ := id h
  refine ⟨fun c => ka_1 h hs (by have := q_neq c; omega) k, fun c => ?_⟩
  have c2 := q_eq c
  obtain ⟨nf, hf⟩ := fu_e 70000
  refine ⟨nf, wq_X7_keepsAct_L13 (s := s0) (fun t z b1 b2 b3 b4 b5 => ?_) nf s0 6896 rfl rfl rfl (fun _ _ => rfl) (fun i hi => ?_) (fun _ _ => rfl) (by omega) (by omega)⟩
  · have t0 : t.1 0 = s0.1 0 := by rw [b1]
    have s1 := nw (tq_subr e1 (t.1 0)) (by rw [t0]; omega)
    rw [t0] at s1
    have r0 : t.2.2.1 0 = s0.2.2.1 0 := b4 0 (by decide)
    have hm : mb N R W D ((va_up t.1 0 ((t.1 0) - 1)), t.2.1, t.2.2.1, t.2.2.2) := by
      refine ⟨?_, ?_, a2, a3, ?_, fun kk hk => ?_, fun kk hk hn => ?_, ?_⟩
      · show (t.1 5).toInt = N
        rw [b1]
        exact a0
      · show 0 ≤ (t.1 0 - 1).toInt ∧ (t.1 0 - 1).toInt ≤ 10
        rw [t0]
        omega
      · show rw_ok R W D (t.2.2.1 0)
        rw [r0]
        exact a4
      · have hk2 : (kk : Int) < (t.1 0 - 1).toInt := hk
        rw [t0] at hk2
        show rk (fun i => t.2.2.1 1 (6896 * kk + i))
        refine rk_congr (a5 (kk + 1) (by omega)) (fun i hi => ?_)
        have e3 : 6896 * kk + i + 6896 = 6896 * (kk + 1) + i := by omega
        rw [b5 _ (by omega), e3]
      · show rk (fun i => t.2.2.1 2 (6896 * kk + i))
        have hn2 : ¬ t.2.2.2 0 kk = 0 := hn
        rw [b4 2 (by decide)]
        rw [b3] at hn2
        exact a6 kk hk hn2
      · show rk (t.2.2.1 3)
        rw [b4 3 (by decide)]
        exact a7
    refine ka_1 hm hs ?_ (fun u hu ju xu => k u hu (ie_tr ju (by decide) (ie_up (by rw [b1]; exact ie_refl _ _) (by decide))) ⟨xu.1.trans b2, xu.2.1.trans b3, xu.2.2.trans r0⟩)
    show (t.1 0 - 1).toInt ≤ 9
    rw [t0]
    omega
  · omega
theorem wq_X7_undo {post : Int32 → Md → Prop} {s0 : Md} {N R W D : Int} (h : mb N R W D s0) (hs : R ≤ 0 ∨ 0 < D) (k : ∀ (r : Int32) (u : Md) (R4 W4 D4 : Int), mb N R4 W4 D4 u → R4 ≤ 0 ∨ 0 < D4 → post r u) : wp_X7_undo post s0 := by
  unfold wp_X7_undo
  have e0 : (0 : Int32).toInt = 0 := rfl
  have e1 : (1 : Int32).toInt = 1 := rfl
  obtain ⟨a0, a1, a2, a3, a4, a5, a6, a7⟩ := id h
  refine ⟨fun c => ?_, fun c => k _ _ _ _ _ h hs⟩
  have c2 := q_neq c
  have s1 := nw (tq_subr e1 (s0.1 0)) (by omega)
  obtain ⟨nf, hf⟩ := fu_e 7000
  have v0 : (((va_up s0.1 0 ((s0.1 0) - 1)), s0.2.1, s0.2.2.1, s0.2.2.2) : Md).1 0 = s0.1 0 - 1 := rfl
  refine ⟨nf, wq_X7_undo_L21 (s := ((va_up s0.1 0 ((s0.1 0) - 1)), s0.2.1, s0.2.2.1, s0.2.2.2)) (by rw [v0]; omega) (fun t z b1 b2 b3 b4 b5 b6 => ?_) nf _ 0 rfl rfl rfl (fun _ _ => rfl) (fun i hi => ?_) (fun _ _ => rfl) (by omega) (by omega)⟩
  · rw [v0] at b5
    obtain ⟨R4, W4, D4, g1, g2⟩ := a5 (s0.1 0 - 1).toInt.toNat (by omega)
    have t0 : t.1 0 = s0.1 0 - 1 := by rw [b1]; rfl
    have rr : rw_ok R4 W4 D4 (t.2.2.1 0) := rw_congr g1 (fun i hi => by
      have li : i < 6896 := by unfold rw_rel at hi; omega
      have := b5 i li
      rw [Nat.zero_add] at this
      exact this)
    refine k _ _ R4 W4 D4 ⟨?_, ?_, a2, rr.2.2.2.2.2.1, rr, fun kk hk => ?_, fun kk hk hn => ?_, ?_⟩ g2
    · rw [b1]
      exact a0
    · rw [t0]
      omega
    · rw [t0] at hk
      rw [b4 1 (by decide)]
      exact a5 kk (by omega)
    · rw [b4 2 (by decide)]
      rw [b3] at hn
      exact a6 kk hk hn
    · rw [b4 3 (by decide)]
      exact a7
  · omega
theorem wq_X7_putsAside {post : Md → Prop} {s0 : Md} {N R W D : Int} (h : mb N R W D s0) (hs : R ≤ 0 ∨ 0 < D) (k : ∀ u : Md, mb N R W D u → ie [] u.1 s0.1 → u.2.1 = s0.2.1 ∧ u.2.2.2 = s0.2.2.2 ∧ u.2.2.1 0 = s0.2.2.1 0 ∧ (∀ i, i < 6896 → u.2.2.1 3 i = s0.2.2.1 0 i) → post u) : wp_X7_putsAside post s0 := by
  unfold wp_X7_putsAside
  have e0 : (0 : Int32).toInt = 0 := rfl
  obtain ⟨a0, a1, a2, a3, a4, a5, a6, a7⟩ := id h
  obtain ⟨nf, hf⟩ := fu_e 7000
  refine ⟨nf, wq_X7_putsAside_L2 (s := s0) (fun t z b1 b2 b3 b4 b5 b6 => ?_) nf s0 0 rfl rfl rfl (fun _ _ => rfl) (fun i hi => ?_) (fun _ _ => rfl) (by omega) (by omega)⟩
  · have b5' : ∀ i, i < 6896 → t.2.2.1 3 i = s0.2.2.1 0 i := fun i hi => by
      have := b5 i hi
      rw [Nat.zero_add] at this
      exact this
    refine k _ ⟨by rw [b1]; exact a0, by rw [b1]; exact a1, a2, a3, by rw [b4 0 (by decide)]; exact a4, fun kk hk => ?_, fun kk hk hn => ?_, ?_⟩ (by rw [b1]; exact ie_refl _ _) ⟨b2, b3, b4 0 (by decide), b5'⟩
    · rw [b1] at hk
      rw [b4 1 (by decide)]
      exact a5 kk hk
    · rw [b4 2 (by decide)]
      rw [b3] at hn
      exact a6 kk hk hn
    · exact rk_congr (rk_now h hs) b5'
  · omega
theorem wq_X7_takesBack {post : Md → Prop} {s0 : Md} {N R W D : Int} (h : mb N R W D s0) (k : ∀ (u : Md) (R4 W4 D4 : Int), mb N R4 W4 D4 u → R4 ≤ 0 ∨ 0 < D4 → ie [] u.1 s0.1 → post u) : wp_X7_takesBack post s0 := by
  unfold wp_X7_takesBack
  have e0 : (0 : Int32).toInt = 0 := rfl
  obtain ⟨a0, a1, a2, a3, a4, a5, a6, a7⟩ := id h
  obtain ⟨nf, hf⟩ := fu_e 7000
  refine ⟨nf, wq_X7_takesBack_L2 (s := s0) (fun t z b1 b2 b3 b4 b5 b6 => ?_) nf s0 0 rfl rfl rfl (fun _ _ => rfl) (fun i hi => ?_) (fun _ _ => rfl) (by omega) (by omega)⟩
  · obtain ⟨R4, W4, D4, g1, g2⟩ := a7
    have rr : rw_ok R4 W4 D4 (t.2.2.1 0) := rw_congr g1 (fun i hi => by
      have li : i < 6896 := by unfold rw_rel at hi; omega
      have := b5 i li
      rw [Nat.zero_add] at this
      exact this)
    refine k _ R4 W4 D4 ⟨by rw [b1]; exact a0, by rw [b1]; exact a1, a2, rr.2.2.2.2.2.1, rr, fun kk hk => ?_, fun kk hk hn => ?_, ?_⟩ g2 (by rw [b1]; exact ie_refl _ _)
    · rw [b1] at hk
      rw [b4 1 (by decide)]
      exact a5 kk hk
    · rw [b4 2 (by decide)]
      rw [b3] at hn
      exact a6 kk hk hn
    · rw [b4 3 (by decide)]
      exact ⟨R4, W4, D4, g1, g2⟩
  · omega
theorem wq_X7_keep {post : Int32 → Md → Prop} {s0 : Md} {x1 : Int32} {N R W D : Int} (h : mb N R W D s0) (hs : R ≤ 0 ∨ 0 < D) (k : ∀ (r : Int32) (u : Md), mb N R W D u → post r u) : wp_X7_keep post s0 x1 := by
  unfold wp_X7_keep
  have e0 : (0 : Int32).toInt = 0 := rfl
  have l0 : (0 : Int64).toInt = 0 := rfl
  have l1 : (1 : Int64).toInt = 1 := rfl
  have x64 := tq_64 x1
  obtain ⟨a0, a1, a2, a3, a4, a5, a6, a7⟩ := id h
  refine wq_X7_in (fun r1 b => ⟨fun c => ?_, fun c => k _ _ h⟩)
  have c2 := q_neq c
  have hx : 0 ≤ x1.toInt ∧ x1.toInt ≤ 1 := by omega
  obtain ⟨nf, hf⟩ := fu_e 7000
  refine ⟨nf, wq_X7_keep_L14 (s := s0) hx (fun t z b1 b2 b3 b4 b5 b6 => ?_) nf s0 0 rfl rfl rfl (fun _ _ => rfl) (fun i hi => ?_) (fun _ _ => rfl) (by omega) (by omega)⟩
  · refine ⟨vi (by omega) (by omega), ?_⟩
    have hm : mb N R W D (t.1, t.2.1, t.2.2.1, (va_up t.2.2.2 0 (upd (t.2.2.2 0) (Int32.toNatClampNeg x1) (vp_nar .boolean 1)))) := by
      refine ⟨?_, ?_, a2, a3, ?_, fun kk hk => ?_, fun kk hk hn => ?_, ?_⟩
      · show (t.1 5).toInt = N
        rw [b1]
        exact a0
      · show 0 ≤ (t.1 0).toInt ∧ (t.1 0).toInt ≤ 10
        rw [b1]
        exact a1
      · show rw_ok R W D (t.2.2.1 0)
        rw [b4 0 (by decide)]
        exact a4
      · have hk2 : (kk : Int) < (t.1 0).toInt := hk
        rw [b1] at hk2
        show rk (fun i => t.2.2.1 1 (6896 * kk + i))
        rw [b4 1 (by decide)]
        exact a5 kk hk2
      · show rk (fun i => t.2.2.1 2 (6896 * kk + i))
        have ti := tn_i x1
        by_cases e : kk = x1.toInt.toNat
        · subst e
          refine rk_congr (rk_now h hs) (fun i hi => ?_)
          rw [b5 i hi, Nat.zero_add]
        · have hn2 : ¬ (if kk = Int32.toNatClampNeg x1 then (vp_nar .boolean 1) else t.2.2.2 0 kk) = 0 := hn
          rw [if_neg (by omega), b3] at hn2
          refine rk_congr (a6 kk hk hn2) (fun i hi => ?_)
          rw [b6 _ (by omega)]
      · show rk (t.2.2.1 3)
        rw [b4 3 (by decide)]
        exact a7
    exact wq_X7_cells hm (fun r8 _ => k _ _ hm)
  · omega
theorem wq_X7_back {post : Int32 → Md → Prop} {s0 : Md} {x1 : Int32} {N R W D : Int} (h : mb N R W D s0) (hs : R ≤ 0 ∨ 0 < D) (k : ∀ (r : Int32) (u : Md) (R4 W4 D4 : Int), mb N R4 W4 D4 u → R4 ≤ 0 ∨ 0 < D4 → post r u) : wp_X7_back post s0 x1 := by
  unfold wp_X7_back
  have e0 : (0 : Int32).toInt = 0 := rfl
  have l0 : (0 : Int64).toInt = 0 := rfl
  have l1 : (1 : Int64).toInt = 1 := rfl
  have x64 := tq_64 x1
  obtain ⟨a0, a1, a2, a3, a4, a5, a6, a7⟩ := id h
  refine wq_X7_in (fun r1 b => ⟨fun c => ?_, fun c => k _ _ _ _ _ h hs⟩)
  have c2 := q_neq c
  have hx : 0 ≤ x1.toInt ∧ x1.toInt ≤ 1 := by omega
  refine ⟨vi (by omega) (by omega), fun g => ?_, fun g => k _ _ _ _ _ h hs⟩
  obtain ⟨nf, hf⟩ := fu_e 7000
  refine ⟨nf, wq_X7_back_L26 (s := s0) hx (fun t z b1 b2 b3 b4 b5 b6 => ?_) nf s0 0 rfl rfl rfl (fun _ _ => rfl) (fun i hi => ?_) (fun _ _ => rfl) (by omega) (by omega)⟩
  · have ti := tn_i x1
    rw [ti] at g
    obtain ⟨R4, W4, D4, g1, g2⟩ := a6 x1.toInt.toNat (by omega) g
    have rr : rw_ok R4 W4 D4 (t.2.2.1 0) := rw_congr g1 (fun i hi => by
      have li : i < 6896 := by unfold rw_rel at hi; omega
      have := b5 i li
      rw [Nat.zero_add] at this
      exact this)
    have hm : mb N R4 W4 D4 ((va_up t.1 0 0), t.2.1, t.2.2.1, t.2.2.2) := by
      refine ⟨?_, ?_, a2, rr.2.2.2.2.2.1, rr, fun kk hk => ?_, fun kk hk hn => ?_, ?_⟩
      · show (t.1 5).toInt = N
        rw [b1]
        exact a0
      · show 0 ≤ (0 : Int32).toInt ∧ (0 : Int32).toInt ≤ 10
        omega
      · have hk2 : (kk : Int) < (0 : Int32).toInt := hk
        omega
      · show rk (fun i => t.2.2.1 2 (6896 * kk + i))
        have hn2 : ¬ t.2.2.2 0 kk = 0 := hn
        rw [b4 2 (by decide)]
        rw [b3] at hn2
        exact a6 kk hk hn2
      · show rk (t.2.2.1 3)
        rw [b4 3 (by decide)]
        exact a7
    exact wq_X7_cells hm (fun r8 _ => k _ _ _ _ _ hm g2)
  · omega
theorem wq_X7_settles_L2 {post : Int32 → Md → Prop} {e15 : Md → Int32 → Prop} {N R W D : Int} {A : Nat → Int32} (hD : 0 < D) (ke : ∀ (t : Md) (z : Int32), mb N R W D t → ie [1, 2] t.1 A → e15 t z) : ∀ (n : Nat) (t : Md) (z1 : Int32), mb N R W D t → ie [1, 2] t.1 A → mu_n (t.2.2.1 0) 40 < (n : Int) → wp_X7_settles_L2 post e15 n t z1 := by
  have e0 : (0 : Int32).toInt = 0 := rfl
  intro n
  induction n with
  | zero =>
    intro t z1 h _ hm
    have := mu_b h.2.2.2.2.1 hD 40 (by omega)
    exfalso
    omega
  | succ n ih =>
    intro t z1 h j hm
    unfold wp_X7_settles_L2
    refine wq_X7_ticks h hD (fun r u hu ju b1 b2 => ⟨fun c => ke _ _ hu (ie_tr ju (by decide) j), fun c => ?_⟩)
    have c2 := q_nle c
    exact ih _ _ hu (ie_tr ju (by decide) j) (by omega)
theorem wq_X7_settles {post : Int32 → Md → Prop} {s0 : Md} {N R W D : Int} (h : mb N R W D s0) (hD : 0 < D) (k : ∀ (r : Int32) (u : Md), mb N R W D u → ie [1, 2] u.1 s0.1 → post r u) : wp_X7_settles post s0 := by
  unfold wp_X7_settles
  have m := mu_b h.2.2.2.2.1 hD 40 (by omega)
  obtain ⟨nf, hf⟩ := fu_e 5000
  exact ⟨nf, wq_X7_settles_L2 hD (fun t z a b => k _ _ a b) nf s0 0 h (ie_refl _ _) (by omega)⟩
theorem wq_X7_when_L32 {post : Int32 → Md → Prop} {e72 : Md → Int32 → Int32 → Int32 → Int32 → Prop} {N R W D : Int} (hD : 0 < D) (ke : ∀ (t : Md) (z1 z2 z3 z4 : Int32), mb N R W D t → e72 t z1 z2 z3 z4) : ∀ (n : Nat) (t : Md) (z1 z2 z3 z4 : Int32), mb N R W D t → mu_n (t.2.2.1 0) 40 < (n : Int) → wp_X7_when_L32 post e72 n t z1 z2 z3 z4 := by
  have e0 : (0 : Int32).toInt = 0 := rfl
  intro n
  induction n with
  | zero =>
    intro t z1 z2 z3 z4 h hm
    have := mu_b h.2.2.2.2.1 hD 40 (by omega)
    exfalso
    omega
  | succ n ih =>
    intro t z1 z2 z3 z4 h hm
    unfold wp_X7_when_L32
    refine wq_X7_ticks h hD (fun r u hu ju b1 b2 => ⟨fun c => ke _ _ _ _ _ hu, fun c => ?_⟩)
    have c2 := q_nle c
    exact ⟨fun _ => ih _ _ _ _ _ hu (by omega), fun _ => ih _ _ _ _ _ hu (by omega)⟩
theorem wq_X7_findsTurningB {post : Md → Prop} {s0 : Md} {N R W D : Int} (h : mb N R W D s0) (hD : 0 < D) (k : ∀ u : Md, mb N R W D u → ie [1, 2] u.1 s0.1 → 0 ≤ (u.1 1).toInt ∧ (u.1 1).toInt ≤ 40 → post u) : wp_X7_findsTurning post s0 := wq_X7_findsTurning h hD (fun u a b => k u a.1 a.2.1 ⟨a.2.2.2.1, b⟩)
theorem wq_X7_findsTurningZ {post : Md → Prop} {s0 : Md} {N R W D : Int} (h : mb N R W D s0) (hs : R ≤ 0 ∨ 0 < D) (k : ∀ u : Md, mb N R W D u → ie [1, 2] u.1 s0.1 → post u) : wp_X7_findsTurning post s0 := by
  by_cases hD : 0 < D
  · exact wq_X7_findsTurning h hD (fun u a b => k u a.1 a.2.1)
  · unfold wp_X7_findsTurning
    have pd := h.2.2.2.1
    have e0 : (0 : Int32).toInt = 0 := rfl
    have hm : mb N R W D ((va_up (va_up s0.1 1 0) 2 0), 0, s0.2.2.1, s0.2.2.2) := mb_i h rfl rfl rfl
    refine ⟨1, ?_⟩
    unfold wp_X7_findsTurning_L19
    refine wq_X7_cells hm (fun r a => ⟨fun _ => k _ hm (ie_up (ie_up (ie_refl _ _) (by decide)) (by decide)), fun c => ?_⟩)
    have := q_nle c
    exfalso
    omega
theorem n64_l {s : Md} {N R W D : Int} (h : mb N R W D s) (hD : 0 < D) : ¬ (s.2.2.1 0) (Int32.toNatClampNeg 2) = 0 := fun e => by
  have e2 : (s.2.2.1 0) 2 = 0 := e
  have q := h.2.2.2.2.1.2.2.2.1
  rw [e2] at q
  have l : (0 : Int64).toInt = 0 := rfl
  omega
theorem rw_dk {R W D : Int} {f : Nat → Int64} {x : Int32} (hf : rw_ok R W D f) (hx : 0 ≤ x.toInt ∧ x.toInt < D) : 2 ≤ d_f f x.toInt.toNat ∧ d_f f x.toInt.toNat ≤ 40 := hf.2.2.2.2.2.2.1 _ (by omega)
theorem wq_X7_of_w {post : Int32 → Prop} {s0 : Md} {x1 x2 : Int32} {N R W D : Int} (h : mb N R W D s0) (hx : 0 ≤ x1.toInt ∧ x1.toInt < 40) (hD : 0 < D) (hw : 1 ≤ x2.toInt ∧ x2.toInt ≤ 3) (k : ∀ r : Int32, 0 ≤ r.toInt ∧ r.toInt ≤ 39 → post r) : wp_X7_of post s0 x1 x2 := by
  have f : ∀ n : Int32, x2.toInt = n.toInt → x2 = n := fun n e => Int32.toInt_inj.mp e
  have l1 : (1 : Int32).toInt = 1 := rfl
  have l2 : (2 : Int32).toInt = 2 := rfl
  have l3 : (3 : Int32).toInt = 3 := rfl
  by_cases g1 : x2.toInt = 1
  · rw [f 1 (by omega)]
    exact wq_X7_of_1 h hx (fun r a b => k r ⟨b.1, b.2.1⟩)
  by_cases g2 : x2.toInt = 2
  · rw [f 2 (by omega)]
    exact wq_X7_of_2 h hx (fun r a b => k r ⟨b.1, b.2.1⟩)
  · rw [f 3 (by omega)]
    exact wq_X7_of_3 h hx (fun r a b => k r ⟨b.1, b.2.1⟩)
