theorem r_lf {R W D : Int} {f g : Nat → Int64} {c c2 : Nat} (hf : rw_ok R W D f) (h : r_eq f g c) (h1 : c2 < 40) (h2 : ¬ c2 = c) : lf_n g c2 = lf_n f c2 := by
  have q := (hf.2.2.2.2.2.2.2 c2 h1).1
  unfold lf_n
  rw [r_c h h1 h2 (by omega : 0 ≤ 4), r_c h h1 h2 (by omega : 2 ≤ 4), r_c h h1 h2 (by omega : 3 ≤ 4), r_d h (by omega)]
theorem mu_eq {R W D : Int} {f g : Nat → Int64} (hf : rw_ok R W D f) (h : ∀ i, rw_rel i → g i = f i) : ∀ n, n ≤ 40 → mu_n g n = mu_n f n := by
  intro n
  induction n with
  | zero =>
    intro _
    rfl
  | succ n ih =>
    intro hn
    unfold mu_n
    rw [ih (by omega), r_m hf (c := 40) (fun i a _ => h i a) (c2 := n) (by omega) (by omega)]
def tk_J (N R W D : Int) (s t : Md) (z : Int) : Prop := mb N R W D t ∧ ie [] t.1 s.1 ∧ t.2.1 = s.2.1 ∧ (∀ c : Nat, c < 40 → z ≤ (c : Int) → lf_n (t.2.2.1 0) c = lf_n (s.2.2.1 0) c) ∧ mu_n (t.2.2.1 0) 40 ≤ mu_n (s.2.2.1 0) 40 ∧ ((∃ c : Nat, (c : Int) < z ∧ bs_at s.2.1 c = true) → mu_n (t.2.2.1 0) 40 < mu_n (s.2.2.1 0) 40)
theorem wq_X7_ticks_L6 {post : Int32 → Md → Prop} {e36 : Md → Int32 → Prop} {s : Md} {N R W D : Int} (hD : 0 < D) (hb : ∀ c, bs_at s.2.1 c = true → (c : Int) < R * W ∧ 0 < lf_n (s.2.2.1 0) c) (ke : ∀ (t : Md) (z : Int32), tk_J N R W D s t (R * W) → e36 t z) : ∀ (n : Nat) (t : Md) (z1 : Int32), tk_J N R W D s t z1.toInt → 0 ≤ z1.toInt ∧ z1.toInt ≤ R * W → R * W - z1.toInt < (n : Int) → wp_X7_ticks_L6 post e36 n t z1 := by
  have e1 : (1 : Int32).toInt = 1 := rfl
  have e0 : (0 : Int32).toInt = 0 := rfl
  intro n
  induction n with
  | zero =>
    intro t z1 _ _ _
    exfalso
    omega
  | succ n ih =>
    intro t z1 i1 i2 i3
    have h := i1.1
    have pd := h.2.2.2.1
    have s1 := nw (tq_addr e1 z1) (by omega)
    unfold wp_X7_ticks_L6
    refine wq_X7_cells h (fun r3 a3 => ⟨fun c => ke t z1 ?_, fun c => ?_⟩)
    · have c2 := q_le c
      have e : z1.toInt = R * W := by omega
      rw [← e]
      exact i1
    have c2 := q_nle c
    refine wq_X7_isInB (by omega) (fun r6 a6 => ⟨fun c3 => ?_, fun c3 => ?_⟩)
    · have c4 := q_eq c3
      have nb : bs_at t.2.1 z1.toInt.toNat = false := by
        rcases a6 with g | g
        · omega
        · exact g.2
      refine ih _ _ ⟨h, i1.2.1, i1.2.2.1, fun c hc hz => i1.2.2.2.1 c hc (by omega), i1.2.2.2.2.1, fun hx => i1.2.2.2.2.2 ?_⟩ (by omega) (by omega)
      obtain ⟨c, hc, hbc⟩ := hx
      refine ⟨c, ?_, hbc⟩
      have ne : ¬ c = z1.toInt.toNat := fun e => by
        rw [i1.2.2.1, ← e, hbc] at nb
        exact absurd nb (by decide)
      omega
    · have c4 := q_neq c3
      have yb : bs_at t.2.1 z1.toInt.toNat = true := by
        rcases a6 with g | g
        · exact g.2
        · omega
      have yb2 := yb
      rw [i1.2.2.1] at yb2
      have lz := hb _ yb2
      refine wq_X7_steps h (by omega) hD (fun u hu ju xu su => ih _ _ ⟨hu, ie_tr ju (by decide) i1.2.1, xu.1.trans i1.2.2.1, fun c hc hz => ?_, ?_, fun _ => ?_⟩ (by omega) (by omega))
      · have := r_lf h.2.2.2.2.1 su.1 hc (by omega : ¬ c = z1.toInt.toNat)
        rw [this]
        exact i1.2.2.2.1 c hc (by omega)
      · have l2 := i1.2.2.2.1 z1.toInt.toNat (by omega) (by omega)
        have m := st_m h.2.2.2.2.1 hu.2.2.2.2.1 hD (by omega) (by omega) su
        have m2 := r_mu (e := 1) h.2.2.2.2.1 su.1 m (by omega) 40 (by omega)
        have := i1.2.2.2.2.1
        omega
      · have l2 := i1.2.2.2.1 z1.toInt.toNat (by omega) (by omega)
        have m := st_m h.2.2.2.2.1 hu.2.2.2.2.1 hD (by omega) (by omega) su
        have m2 := (r_mu (e := 1) h.2.2.2.2.1 su.1 m (by omega) 40 (by omega)).2 (by omega)
        have := i1.2.2.2.2.1
        omega
theorem wq_X7_ticks {post : Int32 → Md → Prop} {s0 : Md} {N R W D : Int} (h : mb N R W D s0) (hD : 0 < D) (k : ∀ (r : Int32) (u : Md), mb N R W D u → ie [1, 2] u.1 s0.1 → 0 ≤ r.toInt ∧ r.toInt ≤ 40 → mu_n (u.2.2.1 0) 40 ≤ mu_n (s0.2.2.1 0) 40 ∧ (r.toInt ≤ 0 ∨ mu_n (u.2.2.1 0) 40 < mu_n (s0.2.2.1 0) 40) → post r u) : wp_X7_ticks post s0 := by
  unfold wp_X7_ticks
  have e0 : (0 : Int32).toInt = 0 := rfl
  have pd := h.2.2.2.1
  have hr4 : ¬ rw_rel (Int32.toNatClampNeg 4) := by
    unfold rw_rel
    decide
  have hr5 : ¬ rw_rel (Int32.toNatClampNeg 5) := by
    unfold rw_rel
    decide
  refine wq_X7_findsTurning h hD (fun u2 h2 l2 => ?_)
  obtain ⟨f1, f2, f3, f4, f5, f6⟩ := h2
  have er : u2.2.2.1 0 = s0.2.2.1 0 := by rw [f3]
  obtain ⟨nf, hf⟩ := fu_e 50
  refine ⟨nf, wq_X7_ticks_L6 (s := u2) hD (fun c hc => by rw [er]; exact f5 c hc) (fun t z ht => ?_) nf u2 0 ⟨f1, ie_refl _ _, rfl, fun _ _ _ => rfl, Int.le_refl _, fun hx => ?_⟩ (by omega) (by omega)⟩
  · obtain ⟨t1, t2, t3, t4, t5, t6⟩ := ht
    have ti : (t.1 1).toInt = (u2.1 1).toInt := ie_i t2 1 (by decide)
    have j : ie [1, 2] t.1 s0.1 := ie_tr t2 (by decide) f2
    rw [er] at t5 t6
    refine ⟨fun c => ?_, fun c => k _ _ t1 j (by omega) ⟨t5, Or.inl (by omega)⟩⟩
    have c2 := q_neq c
    have lt : mu_n (t.2.2.1 0) 40 < mu_n (s0.2.2.1 0) 40 := by
      obtain ⟨c, hc⟩ := f6 (by omega)
      exact t6 ⟨c, (f5 c hc).1, hc⟩
    generalize (Int32.toInt64 (Int64.toInt32 (((t.2.2.1 0) (Int32.toNatClampNeg 4)) + (Int32.toInt64 ((t.1 1) * (t.1 1)))))) = v1
    generalize hv2 : (((vp_updL (t.2.2.1 0) (Int32.toNatClampNeg 4) v1) (Int32.toNatClampNeg 5)) + 1) = v2
    have same : ∀ i, rw_rel i → vp_updL (vp_updL (t.2.2.1 0) (Int32.toNatClampNeg 4) v1) (Int32.toNatClampNeg 5) v2 i = t.2.2.1 0 i := fun i hi => by
      have n5 : ¬ i = Int32.toNatClampNeg 5 := fun e => hr5 (by rw [← e]; exact hi)
      have n4 : ¬ i = Int32.toNatClampNeg 4 := fun e => hr4 (by rw [← e]; exact hi)
      rw [ul_ne n5, ul_ne n4]
    have me := mu_eq t1.2.2.2.2.1 same 40 (by omega)
    refine k _ _ (mb_now t1 rfl (fun k hk => ?_) rfl (rw_congr t1.2.2.2.2.1 same)) j (by omega) ⟨?_, Or.inr ?_⟩
    · show (if k = 0 then _ else t.2.2.1 k) = _
      rw [if_neg hk]
    · show mu_n (vp_updL (vp_updL (t.2.2.1 0) (Int32.toNatClampNeg 4) v1) (Int32.toNatClampNeg 5) v2) 40 ≤ _
      rw [me]
      exact t5
    · show mu_n (vp_updL (vp_updL (t.2.2.1 0) (Int32.toNatClampNeg 4) v1) (Int32.toNatClampNeg 5) v2) 40 < _
      rw [me]
      exact lt
  · obtain ⟨c, hc, _⟩ := hx
    omega
/-! Rows copied. -/
theorem wq_X7_keepsAct_L53 {post : Md → Prop} {e87 : Md → Int32 → Prop} {s : Md} (hs : 0 ≤ (s.1 0).toInt ∧ (s.1 0).toInt ≤ 9) (ke : ∀ (t : Md) (z1 : Int32), t.1 = s.1 → t.2.1 = s.2.1 → t.2.2.2 = s.2.2.2 → (∀ j, ¬ j = 1 → t.2.2.1 j = s.2.2.1 j) → (∀ i : Nat, i < 6896 → t.2.2.1 1 (6896 * (s.1 0).toInt.toNat + i) = s.2.2.1 0 (0 + i)) → (∀ i : Nat, ¬ (6896 * (s.1 0).toInt.toNat ≤ i ∧ i < 6896 * (s.1 0).toInt.toNat + 6896) → t.2.2.1 1 i = s.2.2.1 1 i) → e87 t z1) : ∀ (n : Nat) (t : Md) (z1 : Int32), t.1 = s.1 → t.2.1 = s.2.1 → t.2.2.2 = s.2.2.2 → (∀ j, ¬ j = 1 → t.2.2.1 j = s.2.2.1 j) → (∀ i : Nat, (i : Int) < z1.toInt → t.2.2.1 1 (6896 * (s.1 0).toInt.toNat + i) = s.2.2.1 0 (0 + i)) → (∀ i : Nat, ¬ (6896 * (s.1 0).toInt.toNat ≤ i ∧ i < 6896 * (s.1 0).toInt.toNat + 6896) → t.2.2.1 1 i = s.2.2.1 1 i) → 0 ≤ z1.toInt ∧ z1.toInt ≤ 6896 → 6896 - z1.toInt < (n : Int) → wp_X7_keepsAct_L53 post e87 n t z1 := by
  have e1 : (1 : Int32).toInt = 1 := rfl
  have eR : (6896 : Int32).toInt = 6896 := rfl
  intro n
  induction n with
  | zero =>
    intro t z1 _ _ _ _ _ _ _ _
    exfalso
    omega
  | succ n ih =>
    intro t z1 a1 a2 a3 a4 a5 a6 i2 i3
    unfold wp_X7_keepsAct_L53
    refine ⟨fun c => ke t z1 a1 a2 a3 a4 (fun i hi => a5 i (by have := q_le c; omega)) a6, fun c => ?_⟩
    have c2 := q_nle c
    have s1 := nw (tq_addr e1 z1) (by omega)
    have t0 : (t.1 0).toInt = (s.1 0).toInt := by rw [a1]
    have m1 := nw (tq_mulc eR (t.1 0)) (by omega)
    have m2 := nw (tq_add (6896 * (t.1 0)) z1) (by omega)
    have ix : Int32.toNatClampNeg ((6896 * (t.1 0)) + z1) = 6896 * (s.1 0).toInt.toNat + z1.toInt.toNat := by
      rw [tn_i]
      omega
    have iz : Int32.toNatClampNeg z1 = 0 + z1.toInt.toNat := by
      rw [tn_i]
      omega
    refine ⟨vi (by omega) (by omega), vi (by omega) (by omega), ih _ _ a1 a2 a3 (fun j hj => ?_) (fun i hi => ?_) (fun i hi => ?_) (by omega) (by omega)⟩
    · show (if j = 1 then _ else t.2.2.1 j) = _
      rw [if_neg hj]
      exact a4 j hj
    · show vp_updL (t.2.2.1 1) (Int32.toNatClampNeg ((6896 * (t.1 0)) + z1)) ((t.2.2.1 0) (Int32.toNatClampNeg z1)) (6896 * (s.1 0).toInt.toNat + i) = _
      rw [ix, iz, a4 0 (by decide)]
      by_cases e : i = z1.toInt.toNat
      · subst e
        rw [ul_at]
      · rw [ul_ne (by omega)]
        exact a5 i (by omega)
    · show vp_updL (t.2.2.1 1) (Int32.toNatClampNeg ((6896 * (t.1 0)) + z1)) ((t.2.2.1 0) (Int32.toNatClampNeg z1)) i = _
      rw [ix, ul_ne (by omega)]
      exact a6 i hi
theorem wq_X7_undo_L21 {post : Int32 → Md → Prop} {e55 : Md → Int32 → Prop} {s : Md} (hs : 0 ≤ (s.1 0).toInt ∧ (s.1 0).toInt ≤ 9) (ke : ∀ (t : Md) (z1 : Int32), t.1 = s.1 → t.2.1 = s.2.1 → t.2.2.2 = s.2.2.2 → (∀ j, ¬ j = 0 → t.2.2.1 j = s.2.2.1 j) → (∀ i : Nat, i < 6896 → t.2.2.1 0 (0 + i) = s.2.2.1 1 (6896 * (s.1 0).toInt.toNat + i)) → (∀ i : Nat, ¬ (0 ≤ i ∧ i < 0 + 6896) → t.2.2.1 0 i = s.2.2.1 0 i) → e55 t z1) : ∀ (n : Nat) (t : Md) (z1 : Int32), t.1 = s.1 → t.2.1 = s.2.1 → t.2.2.2 = s.2.2.2 → (∀ j, ¬ j = 0 → t.2.2.1 j = s.2.2.1 j) → (∀ i : Nat, (i : Int) < z1.toInt → t.2.2.1 0 (0 + i) = s.2.2.1 1 (6896 * (s.1 0).toInt.toNat + i)) → (∀ i : Nat, ¬ (0 ≤ i ∧ i < 0 + 6896) → t.2.2.1 0 i = s.2.2.1 0 i) → 0 ≤ z1.toInt ∧ z1.toInt ≤ 6896 → 6896 - z1.toInt < (n : Int) → wp_X7_undo_L21 post e55 n t z1 := by
  have e1 : (1 : Int32).toInt = 1 := rfl
  have eR : (6896 : Int32).toInt = 6896 := rfl
  intro n
  induction n with
  | zero =>
    intro t z1 _ _ _ _ _ _ _ _
    exfalso
    omega
  | succ n ih =>
    intro t z1 a1 a2 a3 a4 a5 a6 i2 i3
    unfold wp_X7_undo_L21
    refine ⟨fun c => ke t z1 a1 a2 a3 a4 (fun i hi => a5 i (by have := q_le c; omega)) a6, fun c => ?_⟩
    have c2 := q_nle c
    have s1 := nw (tq_addr e1 z1) (by omega)
    have t0 : (t.1 0).toInt = (s.1 0).toInt := by rw [a1]
    have m1 := nw (tq_mulc eR (t.1 0)) (by omega)
    have m2 := nw (tq_add (6896 * (t.1 0)) z1) (by omega)
    have ix : Int32.toNatClampNeg ((6896 * (t.1 0)) + z1) = 6896 * (s.1 0).toInt.toNat + z1.toInt.toNat := by
      rw [tn_i]
      omega
    have iz : Int32.toNatClampNeg z1 = 0 + z1.toInt.toNat := by
      rw [tn_i]
      omega
    refine ⟨vi (by omega) (by omega), vi (by omega) (by omega), ih _ _ a1 a2 a3 (fun j hj => ?_) (fun i hi => ?_) (fun i hi => ?_) (by omega) (by omega)⟩
    · show (if j = 0 then _ else t.2.2.1 j) = _
      rw [if_neg hj]
      exact a4 j hj
    · show vp_updL (t.2.2.1 0) (Int32.toNatClampNeg z1) ((t.2.2.1 1) (Int32.toNatClampNeg ((6896 * (t.1 0)) + z1))) (0 + i) = _
      rw [iz, ix, a4 1 (by decide)]
      by_cases e : i = z1.toInt.toNat
      · subst e
        rw [ul_at]
      · rw [ul_ne (by omega)]
        exact a5 i (by omega)
    · show vp_updL (t.2.2.1 0) (Int32.toNatClampNeg z1) ((t.2.2.1 1) (Int32.toNatClampNeg ((6896 * (t.1 0)) + z1))) i = _
      rw [iz, ul_ne (by omega)]
      exact a6 i hi
theorem wq_X7_keep_L14 {post : Int32 → Md → Prop} {e45 : Md → Int32 → Int32 → Prop} {s : Md} {z1 : Int32} (hs : 0 ≤ z1.toInt ∧ z1.toInt ≤ 1) (ke : ∀ (t : Md) (z2 : Int32), t.1 = s.1 → t.2.1 = s.2.1 → t.2.2.2 = s.2.2.2 → (∀ j, ¬ j = 2 → t.2.2.1 j = s.2.2.1 j) → (∀ i : Nat, i < 6896 → t.2.2.1 2 (6896 * z1.toInt.toNat + i) = s.2.2.1 0 (0 + i)) → (∀ i : Nat, ¬ (6896 * z1.toInt.toNat ≤ i ∧ i < 6896 * z1.toInt.toNat + 6896) → t.2.2.1 2 i = s.2.2.1 2 i) → e45 t z1 z2) : ∀ (n : Nat) (t : Md) (z2 : Int32), t.1 = s.1 → t.2.1 = s.2.1 → t.2.2.2 = s.2.2.2 → (∀ j, ¬ j = 2 → t.2.2.1 j = s.2.2.1 j) → (∀ i : Nat, (i : Int) < z2.toInt → t.2.2.1 2 (6896 * z1.toInt.toNat + i) = s.2.2.1 0 (0 + i)) → (∀ i : Nat, ¬ (6896 * z1.toInt.toNat ≤ i ∧ i < 6896 * z1.toInt.toNat + 6896) → t.2.2.1 2 i = s.2.2.1 2 i) → 0 ≤ z2.toInt ∧ z2.toInt ≤ 6896 → 6896 - z2.toInt < (n : Int) → wp_X7_keep_L14 post e45 n t z1 z2 := by
  have e1 : (1 : Int32).toInt = 1 := rfl
  have eR : (6896 : Int32).toInt = 6896 := rfl
  intro n
  induction n with
  | zero =>
    intro t z2 _ _ _ _ _ _ _ _
    exfalso
    omega
  | succ n ih =>
    intro t z2 a1 a2 a3 a4 a5 a6 i2 i3
    unfold wp_X7_keep_L14
    refine ⟨fun c => ke t z2 a1 a2 a3 a4 (fun i hi => a5 i (by have := q_le c; omega)) a6, fun c => ?_⟩
    have c2 := q_nle c
    have s1 := nw (tq_addr e1 z2) (by omega)
    have m1 := nw (tq_mulc eR z1) (by omega)
    have m2 := nw (tq_add (6896 * z1) z2) (by omega)
    have ix : Int32.toNatClampNeg ((6896 * z1) + z2) = 6896 * z1.toInt.toNat + z2.toInt.toNat := by
      rw [tn_i]
      omega
    have iz : Int32.toNatClampNeg z2 = 0 + z2.toInt.toNat := by
      rw [tn_i]
      omega
    refine ⟨vi (by omega) (by omega), vi (by omega) (by omega), ih _ _ a1 a2 a3 (fun j hj => ?_) (fun i hi => ?_) (fun i hi => ?_) (by omega) (by omega)⟩
    · show (if j = 2 then _ else t.2.2.1 j) = _
      rw [if_neg hj]
      exact a4 j hj
    · show vp_updL (t.2.2.1 2) (Int32.toNatClampNeg ((6896 * z1) + z2)) ((t.2.2.1 0) (Int32.toNatClampNeg z2)) (6896 * z1.toInt.toNat + i) = _
      rw [ix, iz, a4 0 (by decide)]
      by_cases e : i = z2.toInt.toNat
      · subst e
        rw [ul_at]
      · rw [ul_ne (by omega)]
        exact a5 i (by omega)
    · show vp_updL (t.2.2.1 2) (Int32.toNatClampNeg ((6896 * z1) + z2)) ((t.2.2.1 0) (Int32.toNatClampNeg z2)) i = _
      rw [ix, ul_ne (by omega)]
      exact a6 i hi
theorem wq_X7_back_L26 {post : Int32 → Md → Prop} {e57 : Md → Int32 → Int32 → Prop} {s : Md} {z1 : Int32} (hs : 0 ≤ z1.toInt ∧ z1.toInt ≤ 1) (ke : ∀ (t : Md) (z2 : Int32), t.1 = s.1 → t.2.1 = s.2.1 → t.2.2.2 = s.2.2.2 → (∀ j, ¬ j = 0 → t.2.2.1 j = s.2.2.1 j) → (∀ i : Nat, i < 6896 → t.2.2.1 0 (0 + i) = s.2.2.1 2 (6896 * z1.toInt.toNat + i)) → (∀ i : Nat, ¬ (0 ≤ i ∧ i < 0 + 6896) → t.2.2.1 0 i = s.2.2.1 0 i) → e57 t z1 z2) : ∀ (n : Nat) (t : Md) (z2 : Int32), t.1 = s.1 → t.2.1 = s.2.1 → t.2.2.2 = s.2.2.2 → (∀ j, ¬ j = 0 → t.2.2.1 j = s.2.2.1 j) → (∀ i : Nat, (i : Int) < z2.toInt → t.2.2.1 0 (0 + i) = s.2.2.1 2 (6896 * z1.toInt.toNat + i)) → (∀ i : Nat, ¬ (0 ≤ i ∧ i < 0 + 6896) → t.2.2.1 0 i = s.2.2.1 0 i) → 0 ≤ z2.toInt ∧ z2.toInt ≤ 6896 → 6896 - z2.toInt < (n : Int) → wp_X7_back_L26 post e57 n t z1 z2 := by
  have e1 : (1 : Int32).toInt = 1 := rfl
  have eR : (6896 : Int32).toInt = 6896 := rfl
  intro n
  induction n with
  | zero =>
    intro t z2 _ _ _ _ _ _ _ _
    exfalso
    omega
  | succ n ih =>
    intro t z2 a1 a2 a3 a4 a5 a6 i2 i3
    unfold wp_X7_back_L26
    refine ⟨fun c => ke t z2 a1 a2 a3 a4 (fun i hi => a5 i (by have := q_le c; omega)) a6, fun c => ?_⟩
    have c2 := q_nle c
    have s1 := nw (tq_addr e1 z2) (by omega)
    have m1 := nw (tq_mulc eR z1) (by omega)
    have m2 := nw (tq_add (6896 * z1) z2) (by omega)
    have ix : Int32.toNatClampNeg ((6896 * z1) + z2) = 6896 * z1.toInt.toNat + z2.toInt.toNat := by
      rw [tn_i]
      omega
    have iz : Int32.toNatClampNeg z2 = 0 + z2.toInt.toNat := by
      rw [tn_i]
      omega
    refine ⟨vi (by omega) (by omega), vi (by omega) (by omega), ih _ _ a1 a2 a3 (fun j hj => ?_) (fun i hi => ?_) (fun i hi => ?_) (by omega) (by omega)⟩
    · show (if j = 0 then _ else t.2.2.1 j) = _
      rw [if_neg hj]
      exact a4 j hj
    · show vp_updL (t.2.2.1 0) (Int32.toNatClampNeg z2) ((t.2.2.1 2) (Int32.toNatClampNeg ((6896 * z1) + z2))) (0 + i) = _
      rw [iz, ix, a4 2 (by decide)]
      by_cases e : i = z2.toInt.toNat
      · subst e
        rw [ul_at]
      · rw [ul_ne (by omega)]
        exact a5 i (by omega)
    · show vp_updL (t.2.2.1 0) (Int32.toNatClampNeg z2) ((t.2.2.1 2) (Int32.toNatClampNeg ((6896 * z1) + z2))) i = _
      rw [iz, ul_ne (by omega)]
      exact a6 i hi
theorem wq_X7_putsAside_L2 {post : Md → Prop} {e27 : Md → Int32 → Prop} {s : Md} (ke : ∀ (t : Md) (z1 : Int32), t.1 = s.1 → t.2.1 = s.2.1 → t.2.2.2 = s.2.2.2 → (∀ j, ¬ j = 3 → t.2.2.1 j = s.2.2.1 j) → (∀ i : Nat, i < 6896 → t.2.2.1 3 (0 + i) = s.2.2.1 0 (0 + i)) → (∀ i : Nat, ¬ (0 ≤ i ∧ i < 0 + 6896) → t.2.2.1 3 i = s.2.2.1 3 i) → e27 t z1) : ∀ (n : Nat) (t : Md) (z1 : Int32), t.1 = s.1 → t.2.1 = s.2.1 → t.2.2.2 = s.2.2.2 → (∀ j, ¬ j = 3 → t.2.2.1 j = s.2.2.1 j) → (∀ i : Nat, (i : Int) < z1.toInt → t.2.2.1 3 (0 + i) = s.2.2.1 0 (0 + i)) → (∀ i : Nat, ¬ (0 ≤ i ∧ i < 0 + 6896) → t.2.2.1 3 i = s.2.2.1 3 i) → 0 ≤ z1.toInt ∧ z1.toInt ≤ 6896 → 6896 - z1.toInt < (n : Int) → wp_X7_putsAside_L2 post e27 n t z1 := by
  have e1 : (1 : Int32).toInt = 1 := rfl
  have eR : (6896 : Int32).toInt = 6896 := rfl
  intro n
  induction n with
  | zero =>
    intro t z1 _ _ _ _ _ _ _ _
    exfalso
    omega
  | succ n ih =>
    intro t z1 a1 a2 a3 a4 a5 a6 i2 i3
    unfold wp_X7_putsAside_L2
    refine ⟨fun c => ke t z1 a1 a2 a3 a4 (fun i hi => a5 i (by have := q_le c; omega)) a6, fun c => ?_⟩
    have c2 := q_nle c
    have s1 := nw (tq_addr e1 z1) (by omega)
    have iz : Int32.toNatClampNeg z1 = 0 + z1.toInt.toNat := by
      rw [tn_i]
      omega
    refine ⟨vi (by omega) (by omega), vi (by omega) (by omega), ih _ _ a1 a2 a3 (fun j hj => ?_) (fun i hi => ?_) (fun i hi => ?_) (by omega) (by omega)⟩
    · show (if j = 3 then _ else t.2.2.1 j) = _
      rw [if_neg hj]
      exact a4 j hj
    · show vp_updL (t.2.2.1 3) (Int32.toNatClampNeg z1) ((t.2.2.1 0) (Int32.toNatClampNeg z1)) (0 + i) = _
      rw [iz, a4 0 (by decide)]
      by_cases e : i = z1.toInt.toNat
      · subst e
        rw [ul_at]
      · rw [ul_ne (by omega)]
        exact a5 i (by omega)
    · show vp_updL (t.2.2.1 3) (Int32.toNatClampNeg z1) ((t.2.2.1 0) (Int32.toNatClampNeg z1)) i = _
      rw [iz, ul_ne (by omega)]
      exact a6 i hi
theorem wq_X7_takesBack_L2 {post : Md → Prop} {e27 : Md → Int32 → Prop} {s : Md} (ke : ∀ (t : Md) (z1 : Int32), t.1 = s.1 → t.2.1 = s.2.1 → t.2.2.2 = s.2.2.2 → (∀ j, ¬ j = 0 → t.2.2.1 j = s.2.2.1 j) → (∀ i : Nat, i < 6896 → t.2.2.1 0 (0 + i) = s.2.2.1 3 (0 + i)) → (∀ i : Nat, ¬ (0 ≤ i ∧ i < 0 + 6896) → t.2.2.1 0 i = s.2.2.1 0 i) → e27 t z1) : ∀ (n : Nat) (t : Md) (z1 : Int32), t.1 = s.1 → t.2.1 = s.2.1 → t.2.2.2 = s.2.2.2 → (∀ j, ¬ j = 0 → t.2.2.1 j = s.2.2.1 j) → (∀ i : Nat, (i : Int) < z1.toInt → t.2.2.1 0 (0 + i) = s.2.2.1 3 (0 + i)) → (∀ i : Nat, ¬ (0 ≤ i ∧ i < 0 + 6896) → t.2.2.1 0 i = s.2.2.1 0 i) → 0 ≤ z1.toInt ∧ z1.toInt ≤ 6896 → 6896 - z1.toInt < (n : Int) → wp_X7_takesBack_L2 post e27 n t z1 := by
  have e1 : (1 : Int32).toInt = 1 := rfl
  have eR : (6896 : Int32).toInt = 6896 := rfl
  intro n
  induction n with
  | zero =>
    intro t z1 _ _ _ _ _ _ _ _
    exfalso
    omega
  | succ n ih =>
    intro t z1 a1 a2 a3 a4 a5 a6 i2 i3
    unfold wp_X7_takesBack_L2
    refine ⟨fun c => ke t z1 a1 a2 a3 a4 (fun i hi => a5 i (by have := q_le c; omega)) a6, fun c => ?_⟩
    have c2 := q_nle c
    have s1 := nw (tq_addr e1 z1) (by omega)
    have iz : Int32.toNatClampNeg z1 = 0 + z1.toInt.toNat := by
      rw [tn_i]
      omega
    refine ⟨vi (by omega) (by omega), vi (by omega) (by omega), ih _ _ a1 a2 a3 (fun j hj => ?_) (fun i hi => ?_) (fun i hi => ?_) (by omega) (by omega)⟩
    · show (if j = 0 then _ else t.2.2.1 j) = _
      rw [if_neg hj]
      exact a4 j hj
    · show vp_updL (t.2.2.1 0) (Int32.toNatClampNeg z1) ((t.2.2.1 3) (Int32.toNatClampNeg z1)) (0 + i) = _
      rw [iz, a4 3 (by decide)]
      by_cases e : i = z1.toInt.toNat
      · subst e
        rw [ul_at]
      · rw [ul_ne (by omega)]
        exact a5 i (by omega)
    · show vp_updL (t.2.2.1 0) (Int32.toNatClampNeg z1) ((t.2.2.1 3) (Int32.toNatClampNeg z1)) i = _
      rw [iz, ul_ne (by omega)]
      exact a6 i hi
