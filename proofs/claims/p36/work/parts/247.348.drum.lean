/-! drum: counts of signs. -/
def cg (g : Nat → Int32) (s : Int32) : Nat → Nat → Nat
  | _, 0 => 0
  | a, n + 1 => (if g a = s then 1 else 0) + cg g s (a + 1) n
def sm (p : Nat → Nat) : Nat → Nat → Nat
  | _, 0 => 0
  | a, n + 1 => p a + sm p (a + 1) n
def mx (p : Nat → Nat) : Nat → Nat → Nat
  | _, 0 => 0
  | a, n + 1 => max (p a) (mx p (a + 1) n)
theorem sm_e {p q : Nat → Nat} : ∀ n a, (∀ i, a ≤ i → i < a + n → p i = q i) → sm p a n = sm q a n
  | 0, _, _ => rfl
  | n + 1, a, h => by
    show p a + sm p (a + 1) n = q a + sm q (a + 1) n
    rw [h a (by omega) (by omega), sm_e n (a + 1) (fun i h1 h2 => h i (by omega) (by omega))]
theorem sm_0 {p : Nat → Nat} : ∀ n a, (∀ i, a ≤ i → i < a + n → p i = 0) → sm p a n = 0
  | 0, _, _ => rfl
  | n + 1, a, h => by
    show p a + sm p (a + 1) n = 0
    rw [h a (by omega) (by omega), sm_0 n (a + 1) (fun i h1 h2 => h i (by omega) (by omega))]
theorem sm_d {p q : Nat → Nat} {k : Nat} : ∀ n a, a ≤ k → k < a + n → (∀ i, a ≤ i → i < a + n → ¬ i = k → p i = q i) → sm p a n + q k = sm q a n + p k
  | 0, _, h1, h2, _ => by omega
  | n + 1, a, h1, h2, h => by
    show p a + sm p (a + 1) n + q k = q a + sm q (a + 1) n + p k
    by_cases c : a = k
    · have := sm_e (p := p) (q := q) n (a + 1) (fun i i1 i2 => h i (by omega) (by omega) (by omega))
      rw [c] at this ⊢
      omega
    · have := sm_d n (a + 1) (by omega) (by omega) (fun i i1 i2 i3 => h i (by omega) (by omega) i3)
      have := h a (by omega) (by omega) c
      omega
theorem nI_t (k : Nat) (h : k < 2147483648) : (nI k).toInt = (k : Int) := by
  show (Int32.ofNat k).toInt = _
  rw [Int32.toInt_ofNat_of_lt h]
/-- a flap is the last of its sign: as many such flaps as signs (with a weight each) -/
theorem U_w {g : Nat → Int32} {w : Int32 → Nat} {N : Nat} (hg : ∀ k, k < N → 32 ≤ (g k).toInt ∧ (g k).toInt ≤ 126) : ∀ n a, a + n = N → sm (fun k => if cg g (g k) (k + 1) (N - (k + 1)) = 0 then w (g k) else 0) a n = sm (fun i => if cg g (nI i) a n = 0 then 0 else w (nI i)) 32 95
  | 0, a, _ => (sm_0 95 32 (fun i _ _ => by rfl)).symm
  | n + 1, a, h => by
    have ga := hg a (by omega)
    have e0 : g a = nI (g a).toInt.toNat := nI_z (by omega)
    have d := sm_d (p := fun i => if cg g (nI i) a (n + 1) = 0 then 0 else w (nI i)) (q := fun i => if cg g (nI i) (a + 1) n = 0 then 0 else w (nI i)) (k := (g a).toInt.toNat) 95 32 (by omega) (by omega) (fun i i1 i2 i3 => by
      have : ¬ g a = nI i := fun c => by
        have := nI_t i (by omega)
        rw [← c] at this
        omega
      show (if (if g a = nI i then 1 else 0) + cg g (nI i) (a + 1) n = 0 then 0 else w (nI i)) = _
      rw [if_neg this, Nat.zero_add])
    have ih := U_w (w := w) hg n (a + 1) (by omega)
    show (if cg g (g a) (a + 1) (N - (a + 1)) = 0 then w (g a) else 0) + _ = _
    rw [ih, show N - (a + 1) = n by omega]
    rw [← e0, show cg g (g a) a (n + 1) = 1 + cg g (g a) (a + 1) n by show (if g a = g a then 1 else 0) + _ = _; rw [if_pos rfl], if_neg (show ¬ 1 + cg g (g a) (a + 1) n = 0 by omega)] at d
    by_cases c : cg g (g a) (a + 1) n = 0
    · rw [if_pos c] at d ⊢
      omega
    · rw [if_neg c] at d ⊢
      omega
/-- the sign of a flap of a drum -/
def gs (f : Nat → Int64) (d k : Nat) : Int32 := Int64.toInt32 (f (8 + 42 * d + 2 + k))
theorem gs_b {f : Nat → Int64} {d k : Nat} (h : DG f d) (hk : (k : Int) < d_f f d) : 32 ≤ (gs f d k).toInt ∧ (gs f d k).toInt ≤ 126 := by
  have q := h.2.2.2 k hk
  unfold gs
  rw [t32 (by omega)]
  exact q
/-- a drum of the class beside the row's -/
def DX (s : Bd) (f : Nat → Int64) (d : Nat) : Prop := d < 4 ∧ (d : Int) < (s.1 3).toInt ∧ (s.2.1 1 d).toInt = d_f f d ∧ (2 ≤ d_f f d ∧ d_f f d ≤ 40) ∧ DG f d ∧ (∀ k : Nat, (k : Int) < d_f f d → s.2.1 2 (40 * d + k) = gs f d k) ∧ s.2.1 0 d = Int64.toInt32 (f (8 + 42 * d))
theorem DX_of {s : Bd} {f : Nat → Int64} {R W D : Int} {d : Nat} (hf : rw_ok R W D f) (hB : RB s f) (hd : (d : Int) < D) : DX s f d := by
  have hR := hf.2.2.2.2.2.1
  have rc := RB_cells hf hB
  have k := RB_fl hf hB hd
  obtain ⟨b4, b5, b6, b7⟩ := hB.2.1.2 d (by rw [hf.2.2.1]; exact hd)
  exact ⟨by omega, by omega, k.1, k.2, b4, b7, b5⟩
theorem e0_flD {P : Int32 → Prop} {s : Bd} {f : Nat → Int64} {x : Int32} {d : Nat} (hX : DX s f d) (hx : x.toInt = (d : Int)) (h : wp_X0_flapsOn P s x) : ∃ F, P F ∧ F.toInt = d_f f d := by
  obtain ⟨x1, x2, x3, x4, x5, x6, x7⟩ := hX
  have e : x.toInt.toNat = d := by omega
  rcases e0_flapsOn h with ⟨_, h⟩ | ⟨g, _⟩
  · rw [e] at h
    exact ⟨_, h, x3⟩
  · omega
theorem e0_sgD {P : Int32 → Prop} {s : Bd} {f : Nat → Int64} {x y : Int32} {d : Nat} (hX : DX s f d) (hx : x.toInt = (d : Int)) (hy : 0 ≤ y.toInt ∧ y.toInt < d_f f d) (h : wp_X0_signOf P s x y) : P (gs f d y.toInt.toNat) := by
  obtain ⟨x1, x2, x3, x4, x5, x6, x7⟩ := hX
  have e0 : (0 : Int32).toInt = 0 := rfl
  have e : x.toInt.toNat = d := by omega
  unfold wp_X0_signOf at h
  have h := h.2 (fun c => by have := q_lt c; omega)
  have h := h.2 (fun c => by have := q_le c; omega)
  have h := (h.2 (fun c => by have := q_lt c; omega)).2
  rw [tn_i, e] at h
  have h := (h.1 (Int32.lt_iff_toInt_lt.mpr (by omega))).2
  rw [ix40 (by omega) (by omega) (by omega) (by omega), e, x6 _ (by omega)] at h
  exact h
theorem e0_fwD_L {s : Bd} {f : Nat → Int64} {P : Int32 → Prop} {d : Nat} {z1 z2 z3 z4 z5 : Int32} (hX : DX s f d) (h4 : z4.toInt = 40 * (d : Int)) (h5 : z5.toInt = d_f f d) : ∀ (n : Nat) (z6 z7 : Int32), 0 ≤ z7.toInt → z7.toInt ≤ d_f f d → 0 ≤ z6.toInt → z6.toInt ≤ z7.toInt → wp_X0_flapsWith_L19 s P (fun _ _ _ _ _ z6 _ => P z6) n z1 z2 z3 z4 z5 z6 z7 → ∃ r, P r ∧ r.toInt = z6.toInt + (cg (gs f d) z2 z7.toInt.toNat ((d_f f d).toNat - z7.toInt.toNat) : Nat) := by
  have e1 : (1 : Int32).toInt = 1 := rfl
  obtain ⟨x1, x2, x3, x4, x5, x6, x7⟩ := hX
  intro n
  induction n with
  | zero =>
    intro z6 z7 _ _ _ _ h
    exact (show False from h).elim
  | succ n ih =>
    intro z6 z7 a1 a2 a3 a4 h
    unfold wp_X0_flapsWith_L19 at h
    by_cases c : z5 ≤ z7
    · have := q_le c
      refine ⟨z6, h.1 c, ?_⟩
      rw [show (d_f f d).toNat - z7.toInt.toNat = 0 by omega]
      show z6.toInt = z6.toInt + ((0 : Nat) : Int)
      omega
    · have := q_nle c
      have h := (h.2 c).2
      have s3 := nw (tq_add z4 z7) (by omega)
      have ex : Int32.toNatClampNeg (z4 + z7) = 40 * d + z7.toInt.toNat := by
        rw [tn_i]
        omega
      rw [ex, x6 z7.toInt.toNat (by omega)] at h
      have s6 := nw (tq_addr e1 z6) (by omega)
      have s7 := nw (tq_addr e1 z7) (by omega)
      have e7 : (z7 + 1).toInt.toNat = z7.toInt.toNat + 1 := by omega
      have en : (d_f f d).toNat - z7.toInt.toNat = ((d_f f d).toNat - (z7.toInt.toNat + 1)) + 1 := by omega
      rw [en]
      show ∃ r, P r ∧ r.toInt = z6.toInt + (((if gs f d z7.toInt.toNat = z2 then 1 else 0) + cg (gs f d) z2 (z7.toInt.toNat + 1) ((d_f f d).toNat - (z7.toInt.toNat + 1)) : Nat) : Int)
      by_cases g : gs f d z7.toInt.toNat = z2
      · obtain ⟨r, p, q⟩ := ih (z6 + 1) (z7 + 1) (by omega) (by omega) (by omega) (by omega) (h.2 g)
        rw [e7] at q
        rw [if_pos g]
        exact ⟨r, p, by omega⟩
      · obtain ⟨r, p, q⟩ := ih z6 (z7 + 1) (by omega) (by omega) (by omega) (by omega) (h.1 g)
        rw [e7] at q
        rw [if_neg g]
        exact ⟨r, p, by omega⟩
theorem e0_fwD {P : Int32 → Prop} {s : Bd} {f : Nat → Int64} {x sg y : Int32} {d : Nat} (hX : DX s f d) (hx : x.toInt = (d : Int)) (hy : 0 ≤ y.toInt ∧ y.toInt ≤ d_f f d) (h : wp_X0_flapsWith P s x sg y) : ∃ r, P r ∧ r.toInt = (cg (gs f d) sg y.toInt.toNat ((d_f f d).toNat - y.toInt.toNat) : Nat) := by
  have e40 : (40 : Int32).toInt = 40 := rfl
  have e0 : (0 : Int32).toInt = 0 := rfl
  have x1 := hX.1
  unfold wp_X0_flapsWith at h
  obtain ⟨F, h, eF⟩ := e0_flD hX hx h
  obtain ⟨n, h⟩ := h
  have a0 := tq_mul x 40
  rw [e40] at a0
  have a1 := nw a0 (by omega)
  obtain ⟨r, p, q⟩ := e0_fwD_L hX (by omega) eF n 0 y hy.1 hy.2 (by decide) (by omega) h
  exact ⟨r, p, by omega⟩
theorem e0_lastD {P : Int32 → Prop} {s : Bd} {f : Nat → Int64} {x y : Int32} {d : Nat} (hX : DX s f d) (hx : x.toInt = (d : Int)) (hy : 0 ≤ y.toInt ∧ y.toInt < d_f f d) (h : wp_X0_isLastOfSign P s x y) : (P 1 ∧ cg (gs f d) (gs f d y.toInt.toNat) (y.toInt.toNat + 1) ((d_f f d).toNat - (y.toInt.toNat + 1)) = 0) ∨ (P 0 ∧ ¬ cg (gs f d) (gs f d y.toInt.toNat) (y.toInt.toNat + 1) ((d_f f d).toNat - (y.toInt.toNat + 1)) = 0) := by
  have e1 : (1 : Int32).toInt = 1 := rfl
  have e0 : (0 : Int32).toInt = 0 := rfl
  have x4 := hX.2.2.2.1
  unfold wp_X0_isLastOfSign at h
  have h := e0_sgD hX hx hy h
  have s1 := nw (tq_addr e1 y) (by omega)
  obtain ⟨r, h, q⟩ := e0_fwD hX hx (by omega) h
  rw [show (y + 1).toInt.toNat = y.toInt.toNat + 1 by omega] at q
  by_cases c : r = 0
  · refine Or.inl ⟨h.2 c, ?_⟩
    rw [c, e0] at q
    omega
  · refine Or.inr ⟨h.1 c, fun g => c (Int32.toInt_inj.mp ?_)⟩
    rw [g] at q
    omega
/-! the reference -/
theorem e7_flD {P : Int32 → Prop} {s : Bd} {m : Md} {x : Int32} {d : Nat} (hX : DX s (m.2.2.1 0) d) (hx : x.toInt = (d : Int)) (h : wp_X7_flapsOf P m x) : ∃ F, P F ∧ F.toInt = d_f (m.2.2.1 0) d := by
  obtain ⟨x1, x2, x3, x4, x5, x6, x7⟩ := hX
  have h := e7_flapsOf (by omega) (by omega) h
  have e : x.toInt.toNat = d := by omega
  rw [e] at h
  refine ⟨_, h, ?_⟩
  rw [t32 (by unfold d_f at x4; omega)]
  rfl
theorem e7_sgD {P : Int32 → Prop} {s : Bd} {m : Md} {x y : Int32} {d : Nat} (hX : DX s (m.2.2.1 0) d) (hx : x.toInt = (d : Int)) (hy : 0 ≤ y.toInt ∧ y.toInt < d_f (m.2.2.1 0) d) (h : wp_X7_signOf P m x y) : P (gs (m.2.2.1 0) d y.toInt.toNat) := by
  obtain ⟨x1, x2, x3, x4, x5, x6, x7⟩ := hX
  have h := e7_signOf (by omega) (by omega) (by omega) (by omega) h
  have e : x.toInt.toNat = d := by omega
  rw [e] at h
  exact h
theorem e7_mwD_L {s : Bd} {m : Md} {P : Int32 → Prop} {d : Nat} {z1 z2 : Int32} (hX : DX s (m.2.2.1 0) d) (hx : z1.toInt = (d : Int)) : ∀ (n : Nat) (z3 z4 : Int32), 0 ≤ z4.toInt → z4.toInt ≤ d_f (m.2.2.1 0) d → 0 ≤ z3.toInt → z3.toInt ≤ z4.toInt → wp_X7_manyWith_L5 m P (fun _ _ z3 _ => P z3) n z1 z2 z3 z4 → ∃ r, P r ∧ r.toInt = z3.toInt + (cg (gs (m.2.2.1 0) d) z2 z4.toInt.toNat ((d_f (m.2.2.1 0) d).toNat - z4.toInt.toNat) : Nat) := by
  have e1 : (1 : Int32).toInt = 1 := rfl
  have x4 := hX.2.2.2.1
  intro n
  induction n with
  | zero =>
    intro z3 z4 _ _ _ _ h
    exact (show False from h).elim
  | succ n ih =>
    intro z3 z4 a1 a2 a3 a4 h
    unfold wp_X7_manyWith_L5 at h
    obtain ⟨F, h, eF⟩ := e7_flD hX hx h
    by_cases c : F ≤ z4
    · have := q_le c
      refine ⟨z3, h.1 c, ?_⟩
      rw [show (d_f (m.2.2.1 0) d).toNat - z4.toInt.toNat = 0 by omega]
      show z3.toInt = z3.toInt + ((0 : Nat) : Int)
      omega
    · have := q_nle c
      have s3 := nw (tq_addr e1 z3) (by omega)
      have s4 := nw (tq_addr e1 z4) (by omega)
      have e4 : (z4 + 1).toInt.toNat = z4.toInt.toNat + 1 := by omega
      have en : (d_f (m.2.2.1 0) d).toNat - z4.toInt.toNat = ((d_f (m.2.2.1 0) d).toNat - (z4.toInt.toNat + 1)) + 1 := by omega
      have h := e7_sgD hX hx (y := z4) (by omega) (h.2 c)
      rw [en]
      show ∃ r, P r ∧ r.toInt = z3.toInt + (((if gs (m.2.2.1 0) d z4.toInt.toNat = z2 then 1 else 0) + cg (gs (m.2.2.1 0) d) z2 (z4.toInt.toNat + 1) ((d_f (m.2.2.1 0) d).toNat - (z4.toInt.toNat + 1)) : Nat) : Int)
      by_cases g : gs (m.2.2.1 0) d z4.toInt.toNat = z2
      · obtain ⟨r, p, q⟩ := ih (z3 + 1) (z4 + 1) (by omega) (by omega) (by omega) (by omega) (h.2 g)
        rw [e4] at q
        rw [if_pos g]
        exact ⟨r, p, by omega⟩
      · have h := h.1 g
        rw [Int32.add_zero] at h
        obtain ⟨r, p, q⟩ := ih z3 (z4 + 1) (by omega) (by omega) (by omega) (by omega) h
        rw [e4] at q
        rw [if_neg g]
        exact ⟨r, p, by omega⟩
theorem e7_mwD {P : Int32 → Prop} {s : Bd} {m : Md} {x sg : Int32} {d : Nat} (hX : DX s (m.2.2.1 0) d) (hx : x.toInt = (d : Int)) (h : wp_X7_manyWith P m x sg) : ∃ r, P r ∧ r.toInt = (cg (gs (m.2.2.1 0) d) sg 0 (d_f (m.2.2.1 0) d).toNat : Nat) := by
  have e0 : (0 : Int32).toInt = 0 := rfl
  have x4 := hX.2.2.2.1
  unfold wp_X7_manyWith at h
  obtain ⟨n, h⟩ := h
  obtain ⟨r, p, q⟩ := e7_mwD_L hX hx n 0 0 (by decide) (by omega) (by decide) (by omega) h
  have q : r.toInt = (0 : Int32).toInt + (cg (gs (m.2.2.1 0) d) sg 0 (d_f (m.2.2.1 0) d).toNat : Nat) := q
  exact ⟨r, p, by omega⟩
def u7 (g : Nat → Int32) (N i : Nat) : Nat := if cg g (nI i) 0 N = 0 then 0 else 1
def m7 (g : Nat → Int32) (N i : Nat) : Nat := cg g (nI i) 0 N
