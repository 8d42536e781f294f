/-! drum: counts of signs. -/
def cg (g : Nat → Int32) (s : Int32) : Nat → Nat → Nat
  | _, 0 => 0
  | a, n + 1 => (if g a = s then 1 else 0) + cg g s (a + 1) n
def sm (p : Nat → Nat) : Nat → Nat → Nat
  | _, 0 => 0
  | a, n + 1 => p a + sm p (a + 1) n
def mx (p : Nat → Nat) : Nat → Nat → Nat
  | _, 0 => 0
  | a, n + 1 => max (p a) (mx p (a + 1) n)
theorem sm_e {p q : Nat → Nat} : ∀ n a, (∀ i, a ≤ i → i < a + n → p i = q i) → sm p a n = sm q a n
  | 0, _, _ => rfl
  | n + 1, a, h => by
    show p a + sm p (a + 1) n = q a + sm q (a + 1) n
    rw [h a (by omega) (by omega), sm_e n (a + 1) (fun i h1 h2 => h i (by omega) (by omega))]
theorem sm_0 {p : Nat → Nat} : ∀ n a, (∀ i, a ≤ i → i < a + n → p i = 0) → sm p a n = 0
  | 0, _, _ => rfl
  | n + 1, a, h => by
    show p a + sm p (a + 1) n = 0
    rw [h a (by omega) (by omega), sm_0 n (a + 1) (fun i h1 h2 => h i (by omega) (by omega))]
theorem sm_d {p q : Nat → Nat} {k : Nat} : ∀ n a, a ≤ k → k < a + n → (∀ i, a ≤ i → i < a + n → ¬ i = k → p i = q i) → sm p a n + q k = sm q a n + p k
  | 0, _, h1, h2, _ => by omega
  | n + 1, a, h1, h2, h => by
    show p a + sm p (a + 1) n + q k = q a + sm q (a + 1) n + p k
    by_cases c : a = k
    · have := sm_e (p := p) (q := q) n (a + 1) (fun i i1 i2 => h i (by omega) (by omega) (by omega))
      rw [c] at this ⊢
      omega
    · have := sm_d n (a + 1) (by omega) (by omega) (fun i i1 i2 i3 => h i (by omega) (by omega) i3)
      have := h a (by omega) (by omega) c
      omega
theorem mx_e {p q : Nat → Nat} : ∀ n a, (∀ i, a ≤ i → i < a + n → p i = q i) → mx p a n = mx q a n
  | 0, _, _ => rfl
  | n + 1, a, h => by
    show max (p a) (mx p (a + 1) n) = max (q a) (mx q (a + 1) n)
    rw [h a (by omega) (by omega), mx_e n (a + 1) (fun i h1 h2 => h i (by omega) (by omega))]
theorem mx_0 {p : Nat → Nat} : ∀ n a, (∀ i, a ≤ i → i < a + n → p i = 0) → mx p a n = 0
  | 0, _, _ => rfl
  | n + 1, a, h => by
    have i1 := h a (by omega) (by omega)
    have i2 := mx_0 n (a + 1) (fun i h1 h2 => h i (by omega) (by omega))
    show max (p a) (mx p (a + 1) n) = 0
    rw [i1, i2]
    exact Nat.max_self 0
theorem mx_d {p q : Nat → Nat} {k : Nat} : ∀ n a, a ≤ k → k < a + n → q k ≤ p k → (∀ i, a ≤ i → i < a + n → ¬ i = k → p i = q i) → mx p a n = max (p k) (mx q a n)
  | 0, _, h1, h2, _, _ => by omega
  | n + 1, a, h1, h2, hk, h => by
    show max (p a) (mx p (a + 1) n) = max (p k) (max (q a) (mx q (a + 1) n))
    by_cases c : a = k
    · rw [mx_e (p := p) (q := q) n (a + 1) (fun i i1 i2 => h i (by omega) (by omega) (by omega)), c]
      omega
    · rw [mx_d n (a + 1) (by omega) (by omega) hk (fun i i1 i2 i3 => h i (by omega) (by omega) i3), h a (by omega) (by omega) c]
      show max _ (max _ _) = max _ (max _ _)
      omega
theorem nI_t (k : Nat) (h : k < 2147483648) : (nI k).toInt = (k : Int) := by
  show (Int32.ofNat k).toInt = _
  rw [Int32.toInt_ofNat_of_lt h]
/-- a flap is the last of its sign: as many such flaps as signs (with a weight each) -/
theorem U_w {g : Nat → Int32} {w : Int32 → Nat} {N : Nat} (hg : ∀ k, k < N → 32 ≤ (g k).toInt ∧ (g k).toInt ≤ 126) : ∀ n a, a + n = N → sm (fun k => if cg g (g k) (k + 1) (N - (k + 1)) = 0 then w (g k) else 0) a n = sm (fun i => if cg g (nI i) a n = 0 then 0 else w (nI i)) 32 95
  | 0, a, _ => (sm_0 95 32 (fun i _ _ => by rfl)).symm
  | n + 1, a, h => by
    have ga := hg a (by omega)
    have e0 : g a = nI (g a).toInt.toNat := nI_z (by omega)
    have d := sm_d (p := fun i => if cg g (nI i) a (n + 1) = 0 then 0 else w (nI i)) (q := fun i => if cg g (nI i) (a + 1) n = 0 then 0 else w (nI i)) (k := (g a).toInt.toNat) 95 32 (by omega) (by omega) (fun i i1 i2 i3 => by
      have : ¬ g a = nI i := fun c => by
        have := nI_t i (by omega)
        rw [← c] at this
        omega
      show (if (if g a = nI i then 1 else 0) + cg g (nI i) (a + 1) n = 0 then 0 else w (nI i)) = _
      rw [if_neg this, Nat.zero_add])
    have ih := U_w (w := w) hg n (a + 1) (by omega)
    show (if cg g (g a) (a + 1) (N - (a + 1)) = 0 then w (g a) else 0) + _ = _
    rw [ih, show N - (a + 1) = n by omega]
    rw [← e0, show cg g (g a) a (n + 1) = 1 + cg g (g a) (a + 1) n by show (if g a = g a then 1 else 0) + _ = _; rw [if_pos rfl], if_neg (show ¬ 1 + cg g (g a) (a + 1) n = 0 by omega)] at d
    by_cases c : cg g (g a) (a + 1) n = 0
    · rw [if_pos c] at d ⊢
      omega
    · rw [if_neg c] at d ⊢
      omega
theorem M_w {g : Nat → Int32} {N : Nat} (hg : ∀ k, k < N → 32 ≤ (g k).toInt ∧ (g k).toInt ≤ 126) : ∀ n a, a + n = N → mx (fun k => cg g (g k) k (N - k)) a n = mx (fun i => cg g (nI i) a n) 32 95
  | 0, a, _ => (mx_0 95 32 (fun i _ _ => by rfl)).symm
  | n + 1, a, h => by
    have ga := hg a (by omega)
    have e0 : g a = nI (g a).toInt.toNat := nI_z (by omega)
    have e1 : cg g (g a) a (n + 1) = 1 + cg g (g a) (a + 1) n := by
      show (if g a = g a then 1 else 0) + _ = _
      rw [if_pos rfl]
    have d := mx_d (p := fun i => cg g (nI i) a (n + 1)) (q := fun i => cg g (nI i) (a + 1) n) (k := (g a).toInt.toNat) 95 32 (by omega) (by omega) (by
      rw [← e0, e1]
      omega) (fun i i1 i2 i3 => by
      have : ¬ g a = nI i := fun c => by
        have := nI_t i (by omega)
        rw [← c] at this
        omega
      show (if g a = nI i then 1 else 0) + cg g (nI i) (a + 1) n = _
      rw [if_neg this, Nat.zero_add])
    have ih := M_w hg n (a + 1) (by omega)
    show max (cg g (g a) a (N - a)) _ = _
    rw [ih, d, show N - a = n + 1 by omega]
    rw [← e0]
/-- the sign of a flap of a drum -/
def gs (f : Nat → Int64) (d k : Nat) : Int32 := Int64.toInt32 (f (8 + 42 * d + 2 + k))
theorem gs_b {f : Nat → Int64} {d k : Nat} (h : DG f d) (hk : (k : Int) < d_f f d) : 32 ≤ (gs f d k).toInt ∧ (gs f d k).toInt ≤ 126 := by
  have q := h.2.2.2 k hk
  unfold gs
  rw [t32 (by omega)]
  exact q
/-- a drum of the class beside the row's -/
def DX (s : Bd) (f : Nat → Int64) (d : Nat) : Prop := d < 4 ∧ (d : Int) < (s.1 3).toInt ∧ (s.2.1 1 d).toInt = d_f f d ∧ (2 ≤ d_f f d ∧ d_f f d ≤ 40) ∧ DG f d ∧ (∀ k : Nat, (k : Int) < d_f f d → s.2.1 2 (40 * d + k) = gs f d k) ∧ s.2.1 0 d = Int64.toInt32 (f (8 + 42 * d))
theorem DX_of {s : Bd} {f : Nat → Int64} {R W D : Int} {d : Nat} (hf : rw_ok R W D f) (hB : RB s f) (hd : (d : Int) < D) : DX s f d := by
  have hR := hf.2.2.2.2.2.1
  have rc := RB_cells hf hB
  have k := RB_fl hf hB hd
  obtain ⟨b4, b5, b6, b7⟩ := hB.2.1.2 d (by rw [hf.2.2.1]; exact hd)
  exact ⟨by omega, by omega, k.1, k.2, b4, b7, b5⟩
theorem e0_flD {P : Int32 → Prop} {s : Bd} {f : Nat → Int64} {x : Int32} {d : Nat} (hX : DX s f d) (hx : x.toInt = (d : Int)) (h : wp_X0_flapsOn P s x) : ∃ F, P F ∧ F.toInt = d_f f d := by
  obtain ⟨x1, x2, x3, x4, x5, x6, x7⟩ := hX
  have e : x.toInt.toNat = d := by omega
  rcases e0_flapsOn h with ⟨_, h⟩ | ⟨g, _⟩
  · rw [e] at h
    exact ⟨_, h, x3⟩
  · omega
theorem e0_sgD {P : Int32 → Prop} {s : Bd} {f : Nat → Int64} {x y : Int32} {d : Nat} (hX : DX s f d) (hx : x.toInt = (d : Int)) (hy : 0 ≤ y.toInt ∧ y.toInt < d_f f d) (h : wp_X0_signOf P s x y) : P (gs f d y.toInt.toNat) := by
  obtain ⟨x1, x2, x3, x4, x5, x6, x7⟩ := hX
  have e0 : (0 : Int32).toInt = 0 := rfl
  have e : x.toInt.toNat = d := by omega
  unfold wp_X0_signOf at h
  have h := h.2 (fun c => by have := q_lt c; omega)
  have h := h.2 (fun c => by have := q_le c; omega)
  have h := (h.2 (fun c => by have := q_lt c; omega)).2
  rw [tn_i, e] at h
  have h := (h.1 (Int32.lt_iff_toInt_lt.mpr (by omega))).2
  rw [ix40 (by omega) (by omega) (by omega) (by omega), e, x6 _ (by omega)] at h
  exact h
theorem e0_fwD_L {s : Bd} {f : Nat → Int64} {P : Int32 → Prop} {d : Nat} {z1 z2 z3 z4 z5 : Int32} (hX : DX s f d) (h4 : z4.toInt = 40 * (d : Int)) (h5 : z5.toInt = d_f f d) : ∀ (n : Nat) (z6 z7 : Int32), 0 ≤ z7.toInt → z7.toInt ≤ d_f f d → 0 ≤ z6.toInt → z6.toInt ≤ z7.toInt → wp_X0_flapsWith_L19 s P (fun _ _ _ _ _ z6 _ => P z6) n z1 z2 z3 z4 z5 z6 z7 → ∃ r, P r ∧ r.toInt = z6.toInt + (cg (gs f d) z2 z7.toInt.toNat ((d_f f d).toNat - z7.toInt.toNat) : Nat) := by
  have e1 : (1 : Int32).toInt = 1 := rfl
  obtain ⟨x1, x2, x3, x4, x5, x6, x7⟩ := hX
  intro n
  induction n with
  | zero =>
    intro z6 z7 _ _ _ _ h
    exact (show False from h).elim
  | succ n ih =>
    intro z6 z7 a1 a2 a3 a4 h
    unfold wp_X0_flapsWith_L19 at h
    by_cases c : z5 ≤ z7
    · have := q_le c
      refine ⟨z6, h.1 c, ?_⟩
      rw [show (d_f f d).toNat - z7.toInt.toNat = 0 by omega]
      show z6.toInt = z6.toInt + ((0 : Nat) : Int)
      omega
    · have := q_nle c
      have h := (h.2 c).2
      have s3 := nw (tq_add z4 z7) (by omega)
      have ex : Int32.toNatClampNeg (z4 + z7) = 40 * d + z7.toInt.toNat := by
        rw [tn_i]
        omega
      rw [ex, x6 z7.toInt.toNat (by omega)] at h
      have s6 := nw (tq_addr e1 z6) (by omega)
      have s7 := nw (tq_addr e1 z7) (by omega)
      have e7 : (z7 + 1).toInt.toNat = z7.toInt.toNat + 1 := by omega
      have en : (d_f f d).toNat - z7.toInt.toNat = ((d_f f d).toNat - (z7.toInt.toNat + 1)) + 1 := by omega
      rw [en]
      show ∃ r, P r ∧ r.toInt = z6.toInt + (((if gs f d z7.toInt.toNat = z2 then 1 else 0) + cg (gs f d) z2 (z7.toInt.toNat + 1) ((d_f f d).toNat - (z7.toInt.toNat + 1)) : Nat) : Int)
      by_cases g : gs f d z7.toInt.toNat = z2
      · obtain ⟨r, p, q⟩ := ih (z6 + 1) (z7 + 1) (by omega) (by omega) (by omega) (by omega) (h.2 g)
        rw [e7] at q
        rw [if_pos g]
        exact ⟨r, p, by omega⟩
      · obtain ⟨r, p, q⟩ := ih z6 (z7 + 1) (by omega) (by omega) (by omega) (by omega) (h.1 g)
        rw [e7] at q
        rw [if_neg g]
        exact ⟨r, p, by omega⟩
theorem e0_fwD {P : Int32 → Prop} {s : Bd} {f : Nat → Int64} {x sg y : Int32} {d : Nat} (hX : DX s f d) (hx : x.toInt = (d : Int)) (hy : 0 ≤ y.toInt ∧ y.toInt ≤ d_f f d) (h : wp_X0_flapsWith P s x sg y) : ∃ r, P r ∧ r.toInt = (cg (gs f d) sg y.toInt.toNat ((d_f f d).toNat - y.toInt.toNat) : Nat) := by
  have e40 : (40 : Int32).toInt = 40 := rfl
  have e0 : (0 : Int32).toInt = 0 := rfl
  have x1 := hX.1
  unfold wp_X0_flapsWith at h
  obtain ⟨F, h, eF⟩ := e0_flD hX hx h
  obtain ⟨n, h⟩ := h
  have a0 := tq_mul x 40
  rw [e40] at a0
  have a1 := nw a0 (by omega)
  obtain ⟨r, p, q⟩ := e0_fwD_L hX (by omega) eF n 0 y hy.1 hy.2 (by decide) (by omega) h
  exact ⟨r, p, by omega⟩
theorem e0_lastD {P : Int32 → Prop} {s : Bd} {f : Nat → Int64} {x y : Int32} {d : Nat} (hX : DX s f d) (hx : x.toInt = (d : Int)) (hy : 0 ≤ y.toInt ∧ y.toInt < d_f f d) (h : wp_X0_isLastOfSign P s x y) : (P 1 ∧ cg (gs f d) (gs f d y.toInt.toNat) (y.toInt.toNat + 1) ((d_f f d).toNat - (y.toInt.toNat + 1)) = 0) ∨ (P 0 ∧ ¬ cg (gs f d) (gs f d y.toInt.toNat) (y.toInt.toNat + 1) ((d_f f d).toNat - (y.toInt.toNat + 1)) = 0) := by
  have e1 : (1 : Int32).toInt = 1 := rfl
  have e0 : (0 : Int32).toInt = 0 := rfl
  have x4 := hX.2.2.2.1
  unfold wp_X0_isLastOfSign at h
  have h := e0_sgD hX hx hy h
  have s1 := nw (tq_addr e1 y) (by omega)
  obtain ⟨r, h, q⟩ := e0_fwD hX hx (by omega) h
  rw [show (y + 1).toInt.toNat = y.toInt.toNat + 1 by omega] at q
  by_cases c : r = 0
  · refine Or.inl ⟨h.2 c, ?_⟩
    rw [c, e0] at q
    omega
  · refine Or.inr ⟨h.1 c, fun g => c (Int32.toInt_inj.mp ?_)⟩
    rw [g] at q
    omega
def ul (g : Nat → Int32) (N k : Nat) : Nat := if cg g (g k) (k + 1) (N - (k + 1)) = 0 then 1 else 0
theorem e0_unl_L {s : Bd} {f : Nat → Int64} {P : Int32 → Prop} {d : Nat} {z1 : Int32} (hX : DX s f d) (hx : z1.toInt = (d : Int)) : ∀ (n : Nat) (z2 z3 : Int32), 0 ≤ z3.toInt → z3.toInt ≤ d_f f d → 0 ≤ z2.toInt → z2.toInt ≤ z3.toInt → wp_X0_unlikeSigns_L4 s P (fun _ z2 _ => P z2) n z1 z2 z3 → ∃ r, P r ∧ r.toInt = z2.toInt + (sm (ul (gs f d) (d_f f d).toNat) z3.toInt.toNat ((d_f f d).toNat - z3.toInt.toNat) : Nat) := by
  have e1 : (1 : Int32).toInt = 1 := rfl
  have x4 := hX.2.2.2.1
  intro n
  induction n with
  | zero =>
    intro z2 z3 _ _ _ _ h
    exact (show False from h).elim
  | succ n ih =>
    intro z2 z3 a1 a2 a3 a4 h
    unfold wp_X0_unlikeSigns_L4 at h
    obtain ⟨F, h, eF⟩ := e0_flD hX hx h
    by_cases c : F ≤ z3
    · have := q_le c
      refine ⟨z2, h.1 c, ?_⟩
      rw [show (d_f f d).toNat - z3.toInt.toNat = 0 by omega]
      show z2.toInt = z2.toInt + ((0 : Nat) : Int)
      omega
    · have := q_nle c
      have s2 := nw (tq_addr e1 z2) (by omega)
      have s3 := nw (tq_addr e1 z3) (by omega)
      have e3 : (z3 + 1).toInt.toNat = z3.toInt.toNat + 1 := by omega
      have en : (d_f f d).toNat - z3.toInt.toNat = ((d_f f d).toNat - (z3.toInt.toNat + 1)) + 1 := by omega
      rw [en]
      show ∃ r, P r ∧ r.toInt = z2.toInt + (((if cg (gs f d) (gs f d z3.toInt.toNat) (z3.toInt.toNat + 1) ((d_f f d).toNat - (z3.toInt.toNat + 1)) = 0 then 1 else 0) + sm (ul (gs f d) (d_f f d).toNat) (z3.toInt.toNat + 1) ((d_f f d).toNat - (z3.toInt.toNat + 1)) : Nat) : Int)
      rcases e0_lastD hX hx (y := z3) (by omega) (h.2 c) with ⟨h, g⟩ | ⟨h, g⟩
      · obtain ⟨r, p, q⟩ := ih (z2 + 1) (z3 + 1) (by omega) (by omega) (by omega) (by omega) (h.2 (by decide))
        rw [e3] at q
        rw [if_pos g]
        exact ⟨r, p, by omega⟩
      · obtain ⟨r, p, q⟩ := ih z2 (z3 + 1) (by omega) (by omega) (by omega) (by omega) (h.1 rfl)
        rw [e3] at q
        rw [if_neg g]
        exact ⟨r, p, by omega⟩
def ml (g : Nat → Int32) (N k : Nat) : Nat := cg g (g k) k (N - k)
theorem e0_msD_L {s : Bd} {f : Nat → Int64} {P : Int32 → Prop} {d : Nat} {z1 : Int32} (hX : DX s f d) (hx : z1.toInt = (d : Int)) : ∀ (n : Nat) (z2 z3 : Int32), 0 ≤ z3.toInt → z3.toInt ≤ d_f f d → 0 ≤ z2.toInt → wp_X0_mostOfOneSign_L4 s P (fun _ z2 _ => P z2) n z1 z2 z3 → ∃ r, P r ∧ r.toInt = (max z2.toInt.toNat (mx (ml (gs f d) (d_f f d).toNat) z3.toInt.toNat ((d_f f d).toNat - z3.toInt.toNat)) : Nat) := by
  have e1 : (1 : Int32).toInt = 1 := rfl
  have x4 := hX.2.2.2.1
  intro n
  induction n with
  | zero =>
    intro z2 z3 _ _ _ h
    exact (show False from h).elim
  | succ n ih =>
    intro z2 z3 a1 a2 a3 h
    unfold wp_X0_mostOfOneSign_L4 at h
    obtain ⟨F, h, eF⟩ := e0_flD hX hx h
    by_cases c : F ≤ z3
    · have := q_le c
      refine ⟨z2, h.1 c, ?_⟩
      rw [show (d_f f d).toNat - z3.toInt.toNat = 0 by omega]
      show z2.toInt = ((max z2.toInt.toNat 0 : Nat) : Int)
      omega
    · have := q_nle c
      have s3 := nw (tq_addr e1 z3) (by omega)
      have e3 : (z3 + 1).toInt.toNat = z3.toInt.toNat + 1 := by omega
      have en : (d_f f d).toNat - z3.toInt.toNat = ((d_f f d).toNat - (z3.toInt.toNat + 1)) + 1 := by omega
      have h := e0_sgD hX hx (y := z3) (by omega) (h.2 c)
      obtain ⟨r6, h, q6⟩ := e0_fwD hX hx (by omega) h
      have m6 : ml (gs f d) (d_f f d).toNat z3.toInt.toNat = cg (gs f d) (gs f d z3.toInt.toNat) z3.toInt.toNat ((d_f f d).toNat - z3.toInt.toNat) := rfl
      rw [← m6] at q6
      rw [en]
      show ∃ r, P r ∧ r.toInt = ((max z2.toInt.toNat (max (ml (gs f d) (d_f f d).toNat z3.toInt.toNat) (mx (ml (gs f d) (d_f f d).toNat) (z3.toInt.toNat + 1) ((d_f f d).toNat - (z3.toInt.toNat + 1)))) : Nat) : Int)
      by_cases g : z2 < r6
      · have := q_lt g
        rw [if_pos g] at h
        obtain ⟨r, p, q⟩ := ih r6 (z3 + 1) (by omega) (by omega) (by omega) h
        rw [e3] at q
        exact ⟨r, p, by omega⟩
      · have := q_nlt g
        rw [if_neg g] at h
        obtain ⟨r, p, q⟩ := ih z2 (z3 + 1) (by omega) (by omega) (by omega) h
        rw [e3] at q
        exact ⟨r, p, by omega⟩
/-! the reference -/
theorem e7_flD {P : Int32 → Prop} {s : Bd} {m : Md} {x : Int32} {d : Nat} (hX : DX s (m.2.2.1 0) d) (hx : x.toInt = (d : Int)) (h : wp_X7_flapsOf P m x) : ∃ F, P F ∧ F.toInt = d_f (m.2.2.1 0) d := by
  obtain ⟨x1, x2, x3, x4, x5, x6, x7⟩ := hX
  have h := e7_flapsOf (by omega) (by omega) h
  have e : x.toInt.toNat = d := by omega
  rw [e] at h
  refine ⟨_, h, ?_⟩
  rw [t32 (by unfold d_f at x4; omega)]
  rfl
theorem e7_sgD {P : Int32 → Prop} {s : Bd} {m : Md} {x y : Int32} {d : Nat} (hX : DX s (m.2.2.1 0) d) (hx : x.toInt = (d : Int)) (hy : 0 ≤ y.toInt ∧ y.toInt < d_f (m.2.2.1 0) d) (h : wp_X7_signOf P m x y) : P (gs (m.2.2.1 0) d y.toInt.toNat) := by
  obtain ⟨x1, x2, x3, x4, x5, x6, x7⟩ := hX
  have h := e7_signOf (by omega) (by omega) (by omega) (by omega) h
  have e : x.toInt.toNat = d := by omega
  rw [e] at h
  exact h
theorem e7_mwD_L {s : Bd} {m : Md} {P : Int32 → Prop} {d : Nat} {z1 z2 : Int32} (hX : DX s (m.2.2.1 0) d) (hx : z1.toInt = (d : Int)) : ∀ (n : Nat) (z3 z4 : Int32), 0 ≤ z4.toInt → z4.toInt ≤ d_f (m.2.2.1 0) d → 0 ≤ z3.toInt → z3.toInt ≤ z4.toInt → wp_X7_manyWith_L5 m P (fun _ _ z3 _ => P z3) n z1 z2 z3 z4 → ∃ r, P r ∧ r.toInt = z3.toInt + (cg (gs (m.2.2.1 0) d) z2 z4.toInt.toNat ((d_f (m.2.2.1 0) d).toNat - z4.toInt.toNat) : Nat) := by
  have e1 : (1 : Int32).toInt = 1 := rfl
  have x4 := hX.2.2.2.1
  intro n
  induction n with
  | zero =>
    intro z3 z4 _ _ _ _ h
    exact (show False from h).elim
  | succ n ih =>
    intro z3 z4 a1 a2 a3 a4 h
    unfold wp_X7_manyWith_L5 at h
    obtain ⟨F, h, eF⟩ := e7_flD hX hx h
    by_cases c : F ≤ z4
    · have := q_le c
      refine ⟨z3, h.1 c, ?_⟩
      rw [show (d_f (m.2.2.1 0) d).toNat - z4.toInt.toNat = 0 by omega]
      show z3.toInt = z3.toInt + ((0 : Nat) : Int)
      omega
    · have := q_nle c
      have s3 := nw (tq_addr e1 z3) (by omega)
      have s4 := nw (tq_addr e1 z4) (by omega)
      have e4 : (z4 + 1).toInt.toNat = z4.toInt.toNat + 1 := by omega
      have en : (d_f (m.2.2.1 0) d).toNat - z4.toInt.toNat = ((d_f (m.2.2.1 0) d).toNat - (z4.toInt.toNat + 1)) + 1 := by omega
      have h := e7_sgD hX hx (y := z4) (by omega) (h.2 c)
      rw [en]
      show ∃ r, P r ∧ r.toInt = z3.toInt + (((if gs (m.2.2.1 0) d z4.toInt.toNat = z2 then 1 else 0) + cg (gs (m.2.2.1 0) d) z2 (z4.toInt.toNat + 1) ((d_f (m.2.2.1 0) d).toNat - (z4.toInt.toNat + 1)) : Nat) : Int)
      by_cases g : gs (m.2.2.1 0) d z4.toInt.toNat = z2
      · obtain ⟨r, p, q⟩ := ih (z3 + 1) (z4 + 1) (by omega) (by omega) (by omega) (by omega) (h.2 g)
        rw [e4] at q
        rw [if_pos g]
        exact ⟨r, p, by omega⟩
      · have h := h.1 g
        rw [Int32.add_zero] at h
        obtain ⟨r, p, q⟩ := ih z3 (z4 + 1) (by omega) (by omega) (by omega) (by omega) h
        rw [e4] at q
        rw [if_neg g]
        exact ⟨r, p, by omega⟩
theorem e7_mwD {P : Int32 → Prop} {s : Bd} {m : Md} {x sg : Int32} {d : Nat} (hX : DX s (m.2.2.1 0) d) (hx : x.toInt = (d : Int)) (h : wp_X7_manyWith P m x sg) : ∃ r, P r ∧ r.toInt = (cg (gs (m.2.2.1 0) d) sg 0 (d_f (m.2.2.1 0) d).toNat : Nat) := by
  have e0 : (0 : Int32).toInt = 0 := rfl
  have x4 := hX.2.2.2.1
  unfold wp_X7_manyWith at h
  obtain ⟨n, h⟩ := h
  obtain ⟨r, p, q⟩ := e7_mwD_L hX hx n 0 0 (by decide) (by omega) (by decide) (by omega) h
  have q : r.toInt = (0 : Int32).toInt + (cg (gs (m.2.2.1 0) d) sg 0 (d_f (m.2.2.1 0) d).toNat : Nat) := q
  exact ⟨r, p, by omega⟩
def u7 (g : Nat → Int32) (N i : Nat) : Nat := if cg g (nI i) 0 N = 0 then 0 else 1
def m7 (g : Nat → Int32) (N i : Nat) : Nat := cg g (nI i) 0 N
theorem e7_sg0_L {s : Bd} {m : Md} {P : Int32 → Prop} {d : Nat} {z1 : Int32} (hX : DX s (m.2.2.1 0) d) (hx : z1.toInt = (d : Int)) : ∀ (n : Nat) (z3 z4 : Int32), 0 ≤ z4.toInt → z4.toInt ≤ 127 → 0 ≤ z3.toInt → z3.toInt ≤ z4.toInt → wp_X7_signsOf_L6 m P (fun _ _ z3 _ => P z3) n z1 0 z3 z4 → ∃ r, P r ∧ r.toInt = z3.toInt + (sm (u7 (gs (m.2.2.1 0) d) (d_f (m.2.2.1 0) d).toNat) z4.toInt.toNat (127 - z4.toInt.toNat) : Nat) := by
  have e1 : (1 : Int32).toInt = 1 := rfl
  have e0 : (0 : Int32).toInt = 0 := rfl
  have e127 : (127 : Int32).toInt = 127 := rfl
  intro n
  induction n with
  | zero =>
    intro z3 z4 _ _ _ _ h
    exact (show False from h).elim
  | succ n ih =>
    intro z3 z4 a1 a2 a3 a4 h
    unfold wp_X7_signsOf_L6 at h
    by_cases c : 127 ≤ z4
    · have := q_le c
      refine ⟨z3, h.1 c, ?_⟩
      rw [show 127 - z4.toInt.toNat = 0 by omega]
      show z3.toInt = z3.toInt + ((0 : Nat) : Int)
      omega
    · have := q_nle c
      have s3 := nw (tq_addr e1 z3) (by omega)
      have s4 := nw (tq_addr e1 z4) (by omega)
      have e4 : (z4 + 1).toInt.toNat = z4.toInt.toNat + 1 := by omega
      have en : 127 - z4.toInt.toNat = (127 - (z4.toInt.toNat + 1)) + 1 := by omega
      obtain ⟨r2, h, q2⟩ := e7_mwD hX hx (h.2 c)
      have h := h.2 rfl
      rw [en]
      show ∃ r, P r ∧ r.toInt = z3.toInt + (((if cg (gs (m.2.2.1 0) d) (nI z4.toInt.toNat) 0 (d_f (m.2.2.1 0) d).toNat = 0 then 0 else 1) + sm (u7 (gs (m.2.2.1 0) d) (d_f (m.2.2.1 0) d).toNat) (z4.toInt.toNat + 1) (127 - (z4.toInt.toNat + 1)) : Nat) : Int)
      rw [nI_tn a1]
      by_cases g : r2 ≤ 0
      · have := q_le g
        have h := h.1 g
        rw [Int32.add_zero] at h
        obtain ⟨r, p, q⟩ := ih z3 (z4 + 1) (by omega) (by omega) (by omega) (by omega) h
        rw [e4] at q
        rw [if_pos (by omega)]
        exact ⟨r, p, by omega⟩
      · have := q_nle g
        obtain ⟨r, p, q⟩ := ih (z3 + 1) (z4 + 1) (by omega) (by omega) (by omega) (by omega) (h.2 g)
        rw [e4] at q
        rw [if_neg (by omega)]
        exact ⟨r, p, by omega⟩
theorem e7_sg1_L {s : Bd} {m : Md} {P : Int32 → Prop} {d : Nat} {z1 : Int32} (hX : DX s (m.2.2.1 0) d) (hx : z1.toInt = (d : Int)) : ∀ (n : Nat) (z3 z4 : Int32), 0 ≤ z4.toInt → z4.toInt ≤ 127 → 0 ≤ z3.toInt → wp_X7_signsOf_L6 m P (fun _ _ z3 _ => P z3) n z1 1 z3 z4 → ∃ r, P r ∧ r.toInt = (max z3.toInt.toNat (mx (m7 (gs (m.2.2.1 0) d) (d_f (m.2.2.1 0) d).toNat) z4.toInt.toNat (127 - z4.toInt.toNat)) : Nat) := by
  have e1 : (1 : Int32).toInt = 1 := rfl
  have e127 : (127 : Int32).toInt = 127 := rfl
  intro n
  induction n with
  | zero =>
    intro z3 z4 _ _ _ h
    exact (show False from h).elim
  | succ n ih =>
    intro z3 z4 a1 a2 a3 h
    unfold wp_X7_signsOf_L6 at h
    by_cases c : 127 ≤ z4
    · have := q_le c
      refine ⟨z3, h.1 c, ?_⟩
      rw [show 127 - z4.toInt.toNat = 0 by omega]
      show z3.toInt = ((max z3.toInt.toNat 0 : Nat) : Int)
      omega
    · have := q_nle c
      have s4 := nw (tq_addr e1 z4) (by omega)
      have e4 : (z4 + 1).toInt.toNat = z4.toInt.toNat + 1 := by omega
      have en : 127 - z4.toInt.toNat = (127 - (z4.toInt.toNat + 1)) + 1 := by omega
      obtain ⟨r2, h, q2⟩ := e7_mwD hX hx (h.2 c)
      have h := h.1 (by decide)
      have q2 : r2.toInt = (m7 (gs (m.2.2.1 0) d) (d_f (m.2.2.1 0) d).toNat z4.toInt.toNat : Nat) := by
        unfold m7
        rw [nI_tn a1]
        exact q2
      rw [en]
      show ∃ r, P r ∧ r.toInt = ((max z3.toInt.toNat (max (m7 (gs (m.2.2.1 0) d) (d_f (m.2.2.1 0) d).toNat z4.toInt.toNat) (mx (m7 (gs (m.2.2.1 0) d) (d_f (m.2.2.1 0) d).toNat) (z4.toInt.toNat + 1) (127 - (z4.toInt.toNat + 1)))) : Nat) : Int)
      by_cases g : r2 ≤ z3
      · have := q_le g
        obtain ⟨r, p, q⟩ := ih z3 (z4 + 1) (by omega) (by omega) (by omega) (h.1 g)
        rw [e4] at q
        exact ⟨r, p, by omega⟩
      · have := q_nle g
        obtain ⟨r, p, q⟩ := ih r2 (z4 + 1) (by omega) (by omega) (by omega) (h.2 g)
        rw [e4] at q
        exact ⟨r, p, by omega⟩
theorem sq_cellsWith_L {P6 P7 : Int32 → Prop} {s2 : Bd} {m : Md} {z1 : Int32} {R W D : Int} (hf : rw_ok R W D (m.2.2.1 0)) (hB : RB s2 (m.2.2.1 0)) : ∀ (n6 n7 : Nat) (z2 z3 : Int32), 0 ≤ z3.toInt → z3.toInt ≤ R * W → wp_X0_cellsWith_L4 s2 P6 (fun _ z2 _ => P6 z2) n6 z1 z2 z3 → wp_X7_cellsWith_L4 m P7 (fun _ z2 _ => P7 z2) n7 z1 z2 z3 → ∃ r, P6 r ∧ P7 r := by
  have e1 : (1 : Int32).toInt = 1 := rfl
  have hR := hf.2.2.2.2.2.1
  have rc := RB_cells hf hB
  have rn := rw_n hf
  have ec : Int64.toInt32 (m.2.2.1 0 0) * Int64.toInt32 (m.2.2.1 0 1) = s2.1 0 * s2.1 1 := Int32.toInt_inj.mp (rn.2.2.2.1.trans rc.2.2.1.symm)
  intro n6
  induction n6 with
  | zero =>
    intro n7 z2 z3 _ _ h
    exact (show False from h).elim
  | succ n6 ih =>
    intro n7 z2 z3 h0 h1 h6 h7
    cases n7 with
    | zero => exact (show False from h7).elim
    | succ n7 =>
      unfold wp_X0_cellsWith_L4 at h6
      unfold wp_X7_cellsWith_L4 at h7
      have h6 := cells6_e h6
      have h7 := cells7_e h7
      rw [ec] at h7
      by_cases c : s2.1 0 * s2.1 1 ≤ z3
      · exact ⟨z2, h6.1 c, h7.1 c⟩
      · have := q_nle c
        have s := nw (tq_addr e1 z3) (by omega)
        have at_ := RB_x (c := z3.toInt.toNat) hf hB (by omega)
        have h6 := (h6.2 c).2
        have h7 := e7_of (i := 0) h0 (by omega) rfl (by decide) (h7.2 c)
        rw [tn_i] at h6
        rw [← at_.1] at h7
        by_cases g : s2.2.1 3 z3.toInt.toNat = z1
        · exact ih n7 (z2 + 1) (z3 + 1) (by omega) (by omega) (h6.2 g) (h7.2 g)
        · have h7 := h7.1 g
          rw [Int32.add_zero] at h7
          exact ih n7 z2 (z3 + 1) (by omega) (by omega) (h6.1 g) h7
theorem sq_drum {P6 P7 : Int32 → Prop} {s2 : Bd} {m : Md} {x1 x2 : Int32} {N R W D : Int} (hB : RB s2 (m.2.2.1 0)) (hM : mb N R W D m) (hs : R ≤ 0 ∨ 0 < D) (h6 : wp_X6_drum P6 s2 x1 x2) (h7 : wp_X7_drum P7 m x1 x2) : ∃ r, P6 r ∧ P7 r := by
  have e0 : (0 : Int32).toInt = 0 := rfl
  have e8 : (8 : Int32).toInt = 8 := rfl
  have e32 : (32 : Int32).toInt = 32 := rfl
  have e42 : (42 : Int32).toInt = 42 := rfl
  have hf := hM.2.2.2.2.1
  have hR := hf.2.2.2.2.2.1
  have rc := RB_cells hf hB
  unfold wp_X6_drum at h6
  unfold wp_X7_drum at h7
  rcases e7_isDrum hf h7 with ⟨h7, g1, g2⟩ | ⟨h7, g⟩
  · rcases e0_hasDrum h6 with ⟨h6, _, _⟩ | ⟨_, g⟩
    · have h6 := h6.1 (by decide)
      have h7 := h7.1 (by decide)
      have hX := DX_of (d := x1.toInt.toNat) hf hB (by omega)
      have hx : x1.toInt = (x1.toInt.toNat : Int) := by omega
      have hg : ∀ k, k < (d_f (m.2.2.1 0) x1.toInt.toNat).toNat → 32 ≤ (gs (m.2.2.1 0) x1.toInt.toNat k).toInt ∧ (gs (m.2.2.1 0) x1.toInt.toNat k).toInt ≤ 126 := fun k hk => gs_b hX.2.2.2.2.1 (by omega)
      by_cases c0 : x2 = 0
      · have h6 := (h6.1 c0).2
        have h7 := h7.1 c0
        unfold wp_X7_currentOf at h7
        have h7 := h7.2
        have a1 := nw (tq_mulc e42 x1) (by omega)
        have a2 := nw (tq_addc e8 (42 * x1)) (by omega)
        have i7 : Int32.toNatClampNeg (8 + 42 * x1) = 8 + 42 * x1.toInt.toNat := by
          rw [tn_i]
          omega
        rw [tn_i, hX.2.2.2.2.2.2] at h6
        rw [i7] at h7
        exact ⟨_, h6, h7⟩
      have h6 := h6.2 c0
      have h7 := h7.2 c0
      by_cases c1 : x2 = 1
      · obtain ⟨F6, h6, q6⟩ := e0_flD hX hx (h6.1 c1)
        obtain ⟨F7, h7, q7⟩ := e7_flD hX hx (h7.1 c1)
        have e : F6 = F7 := Int32.toInt_inj.mp (by omega)
        rw [e] at h6
        exact ⟨_, h6, h7⟩
      have h6 := h6.2 c1
      have h7 := h7.2 c1
      by_cases c2 : x2 = 2
      · have h6 := h6.1 c2
        have h7 := h7.1 c2
        unfold wp_X0_cellsWith at h6
        unfold wp_X7_cellsWith at h7
        obtain ⟨n6, h6⟩ := h6
        obtain ⟨n7, h7⟩ := h7
        exact sq_cellsWith_L hf hB n6 n7 0 0 (by decide) (by omega) h6 h7
      have h6 := h6.2 c2
      have h7 := h7.2 c2
      by_cases c3 : x2 = 3
      · have h6 := h6.1 c3
        have h7 := h7.1 c3
        unfold wp_X0_unlikeSigns at h6
        unfold wp_X7_signsOf at h7
        obtain ⟨n6, h6⟩ := h6
        obtain ⟨n7, h7⟩ := h7
        obtain ⟨r6, h6, q6⟩ := e0_unl_L hX hx n6 0 0 (by decide) (by have := hX.2.2.2.1; omega) (by decide) (by omega) h6
        obtain ⟨r7, h7, q7⟩ := e7_sg0_L hX hx n7 0 32 (by decide) (by omega) (by decide) (by omega) h7
        have u := U_w (w := fun _ => 1) hg (d_f (m.2.2.1 0) x1.toInt.toNat).toNat 0 (by omega)
        have u : sm (ul (gs (m.2.2.1 0) x1.toInt.toNat) (d_f (m.2.2.1 0) x1.toInt.toNat).toNat) 0 (d_f (m.2.2.1 0) x1.toInt.toNat).toNat = sm (u7 (gs (m.2.2.1 0) x1.toInt.toNat) (d_f (m.2.2.1 0) x1.toInt.toNat).toNat) 32 95 := u
        have q6 : r6.toInt = (0 : Int32).toInt + (sm (ul (gs (m.2.2.1 0) x1.toInt.toNat) (d_f (m.2.2.1 0) x1.toInt.toNat).toNat) 0 (d_f (m.2.2.1 0) x1.toInt.toNat).toNat : Nat) := q6
        have q7 : r7.toInt = (0 : Int32).toInt + (sm (u7 (gs (m.2.2.1 0) x1.toInt.toNat) (d_f (m.2.2.1 0) x1.toInt.toNat).toNat) 32 95 : Nat) := q7
        have e : r6 = r7 := Int32.toInt_inj.mp (by omega)
        rw [e] at h6
        exact ⟨_, h6, h7⟩
      have h6 := h6.2 c3
      have h7 := h7.2 c3
      by_cases c4 : x2 = 4
      · have h6 := h6.1 c4
        have h7 := h7.1 c4
        unfold wp_X0_mostOfOneSign at h6
        unfold wp_X7_signsOf at h7
        obtain ⟨n6, h6⟩ := h6
        obtain ⟨n7, h7⟩ := h7
        obtain ⟨r6, h6, q6⟩ := e0_msD_L hX hx n6 0 0 (by decide) (by have := hX.2.2.2.1; omega) (by decide) h6
        obtain ⟨r7, h7, q7⟩ := e7_sg1_L hX hx n7 0 32 (by decide) (by omega) (by decide) h7
        have u := M_w hg (d_f (m.2.2.1 0) x1.toInt.toNat).toNat 0 (by omega)
        have u : mx (ml (gs (m.2.2.1 0) x1.toInt.toNat) (d_f (m.2.2.1 0) x1.toInt.toNat).toNat) 0 (d_f (m.2.2.1 0) x1.toInt.toNat).toNat = mx (m7 (gs (m.2.2.1 0) x1.toInt.toNat) (d_f (m.2.2.1 0) x1.toInt.toNat).toNat) 32 95 := u
        have q6 : r6.toInt = ((max (0 : Int32).toInt.toNat (mx (ml (gs (m.2.2.1 0) x1.toInt.toNat) (d_f (m.2.2.1 0) x1.toInt.toNat).toNat) 0 (d_f (m.2.2.1 0) x1.toInt.toNat).toNat) : Nat) : Int) := q6
        have q7 : r7.toInt = ((max (0 : Int32).toInt.toNat (mx (m7 (gs (m.2.2.1 0) x1.toInt.toNat) (d_f (m.2.2.1 0) x1.toInt.toNat).toNat) 32 95) : Nat) : Int) := q7
        have e : r6 = r7 := Int32.toInt_inj.mp (by rw [q6, q7, u])
        rw [e] at h6
        exact ⟨_, h6, h7⟩
      · exact ⟨_, h6.2 c4, h7.2 c4⟩
    · omega
  · rcases e0_hasDrum h6 with ⟨_, _, _⟩ | ⟨h6, _⟩
    · omega
    · exact ⟨_, h6.2 rfl, h7.2 rfl⟩
