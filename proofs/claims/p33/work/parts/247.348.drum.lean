/-! drum: counts of signs. -/
def cg (g : Nat → Int32) (s : Int32) : Nat → Nat → Nat
  | _, 0 => 0
  | a, n + 1 => (if g a = s then 1 else 0) + cg g s (a + 1) n
def sm (p : Nat → Nat) : Nat → Nat → Nat
  | _, 0 => 0
  | a, n + 1 => p a + sm p (a + 1) n
def mx (p : Nat → Nat) : Nat → Nat → Nat
  | _, 0 => 0
  | a, n + 1 => max (p a) (mx p (a + 1) n)
/-- the sign of a flap of a drum -/
def gs (f : Nat → Int64) (d k : Nat) : Int32 := Int64.toInt32 (f (8 + 42 * d + 2 + k))
/-- a drum of the class beside the row's -/
def DX (s : Bd) (f : Nat → Int64) (d : Nat) : Prop := d < 4 ∧ (d : Int) < (s.1 3).toInt ∧ (s.2.1 1 d).toInt = d_f f d ∧ (2 ≤ d_f f d ∧ d_f f d ≤ 40) ∧ DG f d ∧ (∀ k : Nat, (k : Int) < d_f f d → s.2.1 2 (40 * d + k) = gs f d k) ∧ s.2.1 0 d = Int64.toInt32 (f (8 + 42 * d))
theorem DX_of {s : Bd} {f : Nat → Int64} {R W D : Int} {d : Nat} (hf : rw_ok R W D f) (hB : RB s f) (hd : (d : Int) < D) : DX s f d := by
  have hR := hf.2.2.2.2.2.1
  have rc := RB_cells hf hB
  have k := RB_fl hf hB hd
  obtain ⟨b4, b5, b6, b7⟩ := hB.2.1.2 d (by rw [hf.2.2.1]; exact hd)
  exact ⟨by omega, by omega, k.1, k.2, b4, b7, b5⟩
theorem e0_flD {P : Int32 → Prop} {s : Bd} {f : Nat → Int64} {x : Int32} {d : Nat} (hX : DX s f d) (hx : x.toInt = (d : Int)) (h : wp_X0_flapsOn P s x) : ∃ F, P F ∧ F.toInt = d_f f d := by
  obtain ⟨x1, x2, x3, x4, x5, x6, x7⟩ := hX
  have e : x.toInt.toNat = d := by omega
  rcases e0_flapsOn h with ⟨_, h⟩ | ⟨g, _⟩
  · rw [e] at h
    exact ⟨_, h, x3⟩
  · omega
def ul (g : Nat → Int32) (N k : Nat) : Nat := if cg g (g k) (k + 1) (N - (k + 1)) = 0 then 1 else 0
/-! the reference -/
theorem e7_flD {P : Int32 → Prop} {s : Bd} {m : Md} {x : Int32} {d : Nat} (hX : DX s (m.2.2.1 0) d) (hx : x.toInt = (d : Int)) (h : wp_X7_flapsOf P m x) : ∃ F, P F ∧ F.toInt = d_f (m.2.2.1 0) d := by
  obtain ⟨x1, x2, x3, x4, x5, x6, x7⟩ := hX
  have h := e7_flapsOf (by omega) (by omega) h
  have e : x.toInt.toNat = d := by omega
  rw [e] at h
  refine ⟨_, h, ?_⟩
  rw [t32 (by unfold d_f at x4; omega)]
  rfl
def u7 (g : Nat → Int32) (N i : Nat) : Nat := if cg g (nI i) 0 N = 0 then 0 else 1
def m7 (g : Nat → Int32) (N i : Nat) : Nat := cg g (nI i) 0 N

/-! often, usual, and what else counts the log's entries. -/
def ts (h : Nat → Int32) : Nat → Nat → Int32
  | _, 0 => 0
  | a, n + 1 => h a + ts h (a + 1) n
theorem ts_0 {h : Nat → Int32} : ∀ n a : Nat, (∀ i, a ≤ i → i < a + n → h i = 0) → ts h a n = 0 := by
  intro n
  induction n with
  | zero => intro a _; rfl
  | succ n ih =>
    intro a g
    show h a + ts h (a + 1) n = 0
    rw [g a (by omega) (by omega), ih (a + 1) (fun i h1 h2 => g i (by omega) (by omega))] <;> first | rfl | decide
theorem ts_ap {h : Nat → Int32} : ∀ n a m : Nat, ts h a (n + m) = ts h a n + ts h (a + n) m := by
  intro n
  induction n with
  | zero =>
    intro a m
    rw [Nat.zero_add]
    show ts h a m = 0 + ts h a m
    rw [Int32.zero_add]
  | succ n ih =>
    intro a m
    rw [show n + 1 + m = (n + m) + 1 by omega]
    show h a + ts h (a + 1) (n + m) = h a + ts h (a + 1) n + ts h (a + (n + 1)) m
    rw [ih (a + 1) m, Int32.add_assoc, show a + 1 + n = a + (n + 1) by omega]
theorem ts_z {h : Nat → Int32} {F N : Nat} (hF : F ≤ N) (hz : ∀ i, F ≤ i → i < N → h i = 0) : ts h 0 N = ts h 0 F := by
  have e : N = F + (N - F) := by omega
  rw [e, ts_ap, ts_0 (N - F) (0 + F) (fun i h1 h2 => hz i (by omega) (by omega)), Int32.add_zero]
/-- an entry of the log -/
def lg (f : Nat → Int64) (d a b : Nat) : Int32 := Int64.toInt32 (f (lx d a b))
theorem lg_0 {L : Nat} {e : Nat → Int32} {f : Nat → Int64} {d a b : Nat} (h : RLo L e f) (hd : d < 4) (ha : a < 40) (hb : b < 40) (hn : ¬ inL f d a b) : lg f d a b = 0 := by
  unfold lg
  rw [h.2.2 d a b hd ha hb hn] <;> first | rfl | decide
theorem e0_entAt {P : Int32 → Prop} {B : Int} {s : Bd} {f : Nat → Int64} {x1 x2 x3 x4 : Int32} {d a b : Nat} {R W D : Int} (hf : rw_ok R W D f) (hC : RC B s f) (hi : inL f d a b) (h1 : x1.toInt = (esf f d : Int)) (h2 : x2.toInt = d_f f d) (h3 : x3.toInt = (a : Int)) (h4 : x4.toInt = (b : Int)) (h : wp_X0_entryAt P s x1 x2 x3 x4) : P (lg f d a b) := by
  have e0 : (0 : Int32).toInt = 0 := rfl
  obtain ⟨⟨l1, l2⟩, l3, _⟩ := hC.2.2.2.1
  have ib := inL_b hf hi
  have plt := pc_lt hi
  have bF : ((a * Fn f d : Nat) : Int) = (a : Int) * d_f f d := by rw [Int.natCast_mul, ib.2.2.2.2.1]
  have bF2 : (a : Int) * d_f f d ≤ 1600 := Int.le_trans (Int.mul_le_mul (show (a : Int) ≤ 40 by omega) (show d_f f d ≤ 40 by omega) (by omega) (by decide)) (by decide)
  have bF0 : 0 ≤ (a : Int) * d_f f d := Int.mul_nonneg (by omega) (by omega)
  have m0 := tq_mul x3 x2
  rw [h3, h2] at m0
  have m1 := nw m0 (by omega)
  have m2 := nw (tq_add x1 (x3 * x2)) (by omega)
  have m3 := nw (tq_add (x1 + x3 * x2) x4) (by omega)
  have n0 : (Int32.ofNat s.2.2.2.1).toInt = (s.2.2.2.1 : Int) := tq_ofn (by omega)
  unfold wp_X0_entryAt at h
  have h := ((h.2 (fun g => by have := q_lt g; omega)).2 (fun g => by have := q_le g; omega)).2
  have ix : Int32.toNatClampNeg ((x1 + x3 * x2) + x4) = esf f d + (a * Fn f d + b) := by
    rw [tn_i]
    omega
  rw [ix, l3 d a b hi] at h
  exact h
theorem e7_lgd {P : Int32 → Prop} {m : Md} {x1 x2 x3 : Int32} {d a b : Nat} (hd : d < 4) (ha : a < 40) (hb : b < 40) (h1 : x1.toInt = (d : Int)) (h2 : x2.toInt = (a : Int)) (h3 : x3.toInt = (b : Int)) (h : wp_X7_logged P m x1 x2 x3) : P (lg (m.2.2.1 0) d a b) := by
  have e496 : (496 : Int32).toInt = 496 := rfl
  have e40 : (40 : Int32).toInt = 40 := rfl
  unfold wp_X7_logged at h
  have h := h.2
  have m1 := nw (tq_mulc e40 x1) (by omega)
  have m2 := nw (tq_add (40 * x1) x2) (by omega)
  have m3 := nw (tq_mulc e40 (40 * x1 + x2)) (by omega)
  have m4 := nw (tq_addc e496 (40 * (40 * x1 + x2))) (by omega)
  have m5 := nw (tq_add (496 + 40 * (40 * x1 + x2)) x3) (by omega)
  have ix : Int32.toNatClampNeg ((496 + 40 * (40 * x1 + x2)) + x3) = lx d a b := by
    unfold lx
    rw [tn_i]
    omega
  rw [ix] at h
  exact h
theorem e0_esD {P : Int32 → Prop} {B : Int} {s : Bd} {f : Nat → Int64} {x : Int32} {d : Nat} {R W D : Int} (hf : rw_ok R W D f) (hC : RC B s f) (hx : x.toInt = (d : Int)) (hd : (d : Int) < D) (h : wp_X0_entryStart P s x) : ∃ r, P r ∧ r.toInt = (esf f d : Int) := by
  obtain ⟨z1, z2, z3⟩ := RB_sz hf hC.1
  obtain ⟨r, h, q⟩ := e0_es (f := f) (D := D) z1.2 z2 z3 (by omega) h
  rw [show x.toInt.toNat = d by omega] at q
  exact ⟨r, h, q⟩
/-- entries from a flap (to: 0) or to it -/
def eo (f : Nat → Int64) (d k : Nat) (to : Int32) (o : Nat) : Int32 := if to = 0 then lg f d k o else lg f d o k
theorem inL_of {f : Nat → Int64} {R W D : Int} {d a b : Nat} (hf : rw_ok R W D f) (hd : (d : Int) < D) (ha : (a : Int) < d_f f d) (hb : (b : Int) < d_f f d) : inL f d a b := by
  refine ⟨by rw [hf.2.2.1]; exact hd, ?_, ?_⟩
  · unfold Fn
    omega
  · unfold Fn
    omega
theorem e0_eo_L {P : Int32 → Prop} {B : Int} {s : Bd} {f : Nat → Int64} {z1 z2 z3 z4 z5 : Int32} {d k : Nat} {R W D : Int} (hf : rw_ok R W D f) (hC : RC B s f) (hd : (d : Int) < D) (hk : (k : Int) < d_f f d) (h2 : z2.toInt = (k : Int)) (h4 : z4.toInt = (esf f d : Int)) (h5 : z5.toInt = d_f f d) (hF : d_f f d ≤ 40) : ∀ (n : Nat) (z6 z7 : Int32), 0 ≤ z7.toInt → z7.toInt ≤ d_f f d → wp_X0_entriesOf_L20 s P (fun _ _ _ _ _ z6 _ => P z6) n z1 z2 z3 z4 z5 z6 z7 → P (z6 + ts (eo f d k z3) z7.toInt.toNat ((d_f f d).toNat - z7.toInt.toNat)) := by
  have e1 : (1 : Int32).toInt = 1 := rfl
  intro n
  induction n with
  | zero =>
    intro z6 z7 _ _ h
    exact (show False from h).elim
  | succ n ih =>
    intro z6 z7 a1 a2 h
    unfold wp_X0_entriesOf_L20 at h
    by_cases c : z5 ≤ z7
    · have := q_le c
      rw [show (d_f f d).toNat - z7.toInt.toNat = 0 by omega]
      show P (z6 + 0)
      rw [Int32.add_zero]
      exact h.1 c
    · have := q_nle c
      have h := h.2 c
      have s7 := nw (tq_addr e1 z7) (by omega)
      have e7 : (z7 + 1).toInt.toNat = z7.toInt.toNat + 1 := by omega
      have en : (d_f f d).toNat - z7.toInt.toNat = ((d_f f d).toNat - (z7.toInt.toNat + 1)) + 1 := by omega
      rw [en]
      show P (z6 + (eo f d k z3 z7.toInt.toNat + ts (eo f d k z3) (z7.toInt.toNat + 1) ((d_f f d).toNat - (z7.toInt.toNat + 1))))
      rw [← Int32.add_assoc, ← e7]
      have k7 : z7.toInt = ((z7.toInt.toNat : Nat) : Int) := by omega
      by_cases g : z3 = 0
      · have h := e0_entAt hf hC (inL_of hf hd hk (b := z7.toInt.toNat) (by omega)) h4 h5 h2 k7 (h.1 g)
        have e : eo f d k z3 z7.toInt.toNat = lg f d k z7.toInt.toNat := by
          unfold eo
          rw [if_pos g]
        rw [e]
        exact ih _ (z7 + 1) (by omega) (by omega) h
      · have h := e0_entAt hf hC (inL_of hf hd (a := z7.toInt.toNat) (by omega) hk) h4 h5 k7 h2 (h.2 g)
        have e : eo f d k z3 z7.toInt.toNat = lg f d z7.toInt.toNat k := by
          unfold eo
          rw [if_neg g]
        rw [e]
        exact ih _ (z7 + 1) (by omega) (by omega) h
theorem e0_eo {P : Int32 → Prop} {B : Int} {s : Bd} {f : Nat → Int64} {x1 x2 x3 : Int32} {d k : Nat} {R W D : Int} (hf : rw_ok R W D f) (hC : RC B s f) (hX : DX s f d) (hd : (d : Int) < D) (hk : (k : Int) < d_f f d) (h1 : x1.toInt = (d : Int)) (h2 : x2.toInt = (k : Int)) (h : wp_X0_entriesOf P s x1 x2 x3) : P (ts (eo f d k x3) 0 (d_f f d).toNat) := by
  have x4 := hX.2.2.2.1
  have e0 : (0 : Int32).toInt = 0 := rfl
  unfold wp_X0_entriesOf at h
  obtain ⟨r1, h, q1⟩ := e0_esD hf hC h1 hd h
  obtain ⟨F, h, qF⟩ := e0_flD hX h1 h
  obtain ⟨n, h⟩ := h
  have h := e0_eo_L hf hC hd hk h2 q1 qF x4.2 n 0 0 (by decide) (by omega) h
  rw [Int32.zero_add] at h
  exact h
theorem e7_eo_L {P : Int32 → Prop} {m : Md} {z1 z2 z3 : Int32} {d k : Nat} (hd : d < 4) (hk : k < 40) (h1 : z1.toInt = (d : Int)) (h2 : z2.toInt = (k : Int)) : ∀ (n : Nat) (z4 z5 : Int32), 0 ≤ z5.toInt → z5.toInt ≤ 40 → wp_X7_often_L33 m P (fun _ _ _ z4 _ => P z4) n z1 z2 z3 z4 z5 → P (z4 + ts (eo (m.2.2.1 0) d k z3) z5.toInt.toNat (40 - z5.toInt.toNat)) := by
  have e1 : (1 : Int32).toInt = 1 := rfl
  have e40 : (40 : Int32).toInt = 40 := rfl
  intro n
  induction n with
  | zero =>
    intro z4 z5 _ _ h
    exact (show False from h).elim
  | succ n ih =>
    intro z4 z5 a1 a2 h
    unfold wp_X7_often_L33 at h
    by_cases c : 40 ≤ z5
    · have := q_le c
      rw [show 40 - z5.toInt.toNat = 0 by omega]
      show P (z4 + 0)
      rw [Int32.add_zero]
      exact h.1 c
    · have := q_nle c
      have h := h.2 c
      have s5 := nw (tq_addr e1 z5) (by omega)
      have e5 : (z5 + 1).toInt.toNat = z5.toInt.toNat + 1 := by omega
      have en : 40 - z5.toInt.toNat = (40 - (z5.toInt.toNat + 1)) + 1 := by omega
      rw [en]
      show P (z4 + (eo (m.2.2.1 0) d k z3 z5.toInt.toNat + ts (eo (m.2.2.1 0) d k z3) (z5.toInt.toNat + 1) (40 - (z5.toInt.toNat + 1))))
      rw [← Int32.add_assoc, ← e5]
      have k5 : z5.toInt = ((z5.toInt.toNat : Nat) : Int) := by omega
      by_cases g : z3 = 0
      · have h := e7_lgd hd hk (show z5.toInt.toNat < 40 by omega) h1 h2 k5 (h.1 g)
        have e : eo (m.2.2.1 0) d k z3 z5.toInt.toNat = lg (m.2.2.1 0) d k z5.toInt.toNat := by
          unfold eo
          rw [if_pos g]
        rw [e]
        exact ih _ (z5 + 1) (by omega) (by omega) h
      · have h := e7_lgd hd (show z5.toInt.toNat < 40 by omega) hk h1 k5 h2 (h.2 g)
        have e : eo (m.2.2.1 0) d k z3 z5.toInt.toNat = lg (m.2.2.1 0) d z5.toInt.toNat k := by
          unfold eo
          rw [if_neg g]
        rw [e]
        exact ih _ (z5 + 1) (by omega) (by omega) h
theorem eo_z {L : Nat} {e : Nat → Int32} {f : Nat → Int64} {d k : Nat} {to : Int32} {R W D : Int} (hf : rw_ok R W D f) (h : RLo L e f) (hd : (d : Int) < D) (hk : k < 40) : ts (eo f d k to) 0 40 = ts (eo f d k to) 0 (d_f f d).toNat := by
  have hR := hf.2.2.2.2.2.1
  have w := hf.2.2.2.2.2.2.1 d hd
  refine ts_z (by omega) (fun i h1 h2 => ?_)
  unfold eo
  have ni : ¬ i < Fn f d := by
    unfold Fn
    omega
  by_cases g : to = 0
  · rw [if_pos g]
    exact lg_0 h (by omega) hk h2 (fun q => ni q.2.2)
  · rw [if_neg g]
    exact lg_0 h (by omega) h2 hk (fun q => ni q.2.1)
theorem e7_often {P : Int32 → Prop} {s : Bd} {m : Md} {x1 x2 x3 : Int32} {R W D : Int} (hf : rw_ok R W D (m.2.2.1 0)) (hB : RB s (m.2.2.1 0)) (h : wp_X7_often P m x1 x2 x3) : (((0 ≤ x1.toInt ∧ x1.toInt < D) ∧ 0 ≤ x2.toInt ∧ x2.toInt < d_f (m.2.2.1 0) x1.toInt.toNat) ∧ P (ts (eo (m.2.2.1 0) x1.toInt.toNat x2.toInt.toNat x3) 0 40)) ∨ (¬ ((0 ≤ x1.toInt ∧ x1.toInt < D) ∧ 0 ≤ x2.toInt ∧ x2.toInt < d_f (m.2.2.1 0) x1.toInt.toNat) ∧ P (-1)) := by
  have hR := hf.2.2.2.2.2.1
  unfold wp_X7_often at h
  rcases e7_isDrum hf h with ⟨h, g1, g2⟩ | ⟨h, g⟩
  · have hX := DX_of (d := x1.toInt.toNat) hf hB (by omega)
    have x4 := hX.2.2.2.1
    obtain ⟨F, h, qF⟩ := e7_flD hX (by omega) (h.2 (by decide))
    rcases e7_in0 (i := 0) rfl qF (by omega) h with ⟨h, j1, j2⟩ | ⟨h, j⟩
    · obtain ⟨n, h⟩ := h.1 (by decide)
      have h := e7_eo_L (d := x1.toInt.toNat) (k := x2.toInt.toNat) (by omega) (by omega) (by omega) (by omega) n 0 0 (by decide) (by decide) h
      rw [Int32.zero_add] at h
      exact Or.inl ⟨⟨⟨g1, g2⟩, j1, j2⟩, h⟩
    · exact Or.inr ⟨fun q => by omega, h.2 rfl⟩
  · exact Or.inr ⟨fun q => by omega, h.1 rfl⟩
theorem sq_usual_L {P6 P7 : Int32 → Prop} {B : Int} {s2 : Bd} {m : Md} {z1 z2 : Int32} {d : Nat} {R W D : Int} (hf : rw_ok R W D (m.2.2.1 0)) (hC : RC B s2 (m.2.2.1 0)) (h1 : z1.toInt = (d : Int)) (hd : (d : Int) < D) : ∀ (n6 n7 : Nat) (a6 a7 z4 z5 : Int32), 0 ≤ z5.toInt → z5.toInt ≤ 40 → ((a6 = -1 ∧ a7 = -2) ∨ (a6 = a7 ∧ 0 ≤ a6.toInt)) → wp_X6_usual_L30 s2 P6 (fun z1 z2 z3 z4 z5 => ((¬ z3 = (-1) → ((¬ z2 = 0 → P6 z4) ∧ (z2 = 0 → P6 z3))) ∧ (z3 = (-1) → P6 (-2)))) n6 z1 z2 a6 z4 z5 → wp_X7_usual_L29 m P7 (fun z1 z2 z3 z4 z5 => ((z3 = (-2) → P7 z3) ∧ (¬ z3 = (-2) → ((¬ z2 = 0 → P7 z4) ∧ (z2 = 0 → P7 z3))))) n7 z1 z2 a7 z4 z5 → ∃ r, P6 r ∧ P7 r := by
  have e1 : (1 : Int32).toInt = 1 := rfl
  have em1 : (-1 : Int32).toInt = -1 := rfl
  have em2 : (-2 : Int32).toInt = -2 := rfl
  have hB := hC.1
  have hR := hf.2.2.2.2.2.1
  have hX := DX_of hf hB hd
  have x4 := hX.2.2.2.1
  have ed : z1.toInt.toNat = d := by omega
  intro n6
  induction n6 with
  | zero =>
    intro n7 a6 a7 z4 z5 _ _ _ h
    exact (show False from h).elim
  | succ n6 ih =>
    intro n7 a6 a7 z4 z5 b1 b2 b3 h6 h7
    cases n7 with
    | zero => exact (show False from h7).elim
    | succ n7 =>
      unfold wp_X6_usual_L30 at h6
      unfold wp_X7_usual_L29 at h7
      obtain ⟨F6, h6, q6⟩ := e0_flD hX h1 h6
      obtain ⟨F7, h7, q7⟩ := e7_flD hX h1 h7
      have eF : F6 = F7 := Int32.toInt_inj.mp (by omega)
      subst eF
      by_cases c : F6 ≤ z5
      · have h6 := h6.1 c
        have h7 := h7.1 c
        rcases b3 with ⟨b3, b4⟩ | ⟨b3, b4⟩
        · have h6 := h6.2 b3
          have h7 := h7.1 b4
          rw [b4] at h7
          exact ⟨_, h6, h7⟩
        · have h6 := h6.1 (fun g => by rw [g] at b4; omega)
          have h7 := h7.2 (fun g => by rw [b3, g] at b4; omega)
          rw [b3] at h6
          by_cases c0 : z2 = 0
          · exact ⟨_, h6.2 c0, h7.2 c0⟩
          · exact ⟨_, h6.1 c0, h7.1 c0⟩
      · have := q_nle c
        have s5 := nw (tq_addr e1 z5) (by omega)
        have h6 := e0_eo (d := d) (k := z5.toInt.toNat) hf hC hX hd (by omega) h1 (by omega) (h6.2 c)
        rcases e7_often hf hB (h7.2 c) with ⟨_, h7⟩ | ⟨g, _⟩
        · rw [ed, eo_z hf hC.2.2.2.1 hd (by omega)] at h7
          generalize hv : ts (eo (m.2.2.1 0) d z5.toInt.toNat 1) 0 (d_f (m.2.2.1 0) d).toNat = v at h6 h7
          by_cases l : z4 < v
          · have := q_lt l
            have h6 := h6.2 (fun g => by have := q_le g; omega)
            rcases e7_often hf hB (h7.1 l) with ⟨_, h7⟩ | ⟨g, _⟩
            · rw [ed, eo_z hf hC.2.2.2.1 hd (by omega), hv] at h7
              exact ih n7 z5 z5 v (z5 + 1) (by omega) (by omega) (Or.inr ⟨rfl, b1⟩) h6 h7
            · rw [ed] at g
              omega
          · have := q_nlt l
            exact ih n7 a6 a7 z4 (z5 + 1) (by omega) (by omega) b3 (h6.1 (Int32.le_iff_toInt_le.mpr this)) (h7.2 l)
        · rw [ed] at g
          omega
theorem sq_usual {P6 P7 : Int32 → Prop} {s2 : Bd} {m : Md} {x1 x2 : Int32} {B N R W D : Int} (hC : RC B s2 (m.2.2.1 0)) (hM : mb N R W D m) (hs : R ≤ 0 ∨ 0 < D) (h6 : wp_X6_usual P6 s2 x1 x2) (h7 : wp_X7_usual P7 m x1 x2) : ∃ r, P6 r ∧ P7 r := by
  have e0 : (0 : Int32).toInt = 0 := rfl
  have e1 : (1 : Int32).toInt = 1 := rfl
  have hB := hC.1
  have hf := hM.2.2.2.2.1
  have hR := hf.2.2.2.2.2.1
  have rc := RB_cells hf hB
  unfold wp_X6_usual at h6
  unfold wp_X7_usual at h7
  rcases e7_isDrum hf h7 with ⟨h7, g1, g2⟩ | ⟨h7, g⟩
  · rcases e0_hasDrum h6 with ⟨h6, _, _⟩ | ⟨_, g⟩
    · have h6 := h6.2 (by decide)
      rcases e7_inC (i := 0) (j := 1) rfl rfl (h7.2 (by decide)) with ⟨h7, j1, j2⟩ | ⟨h7, j⟩
      · obtain ⟨n6, h6⟩ := (h6.2 (fun c => by have := q_lt c; omega)).1 (Int32.le_iff_toInt_le.mpr (by omega))
        obtain ⟨n7, h7⟩ := h7.1 (by decide)
        exact sq_usual_L (d := x1.toInt.toNat) hf hC (by omega) (by omega) n6 n7 (-1) (-2) 0 0 (by decide) (by decide) (Or.inl ⟨rfl, rfl⟩) h6 h7
      · have h7 := h7.2 rfl
        by_cases c : x2 < 0
        · exact ⟨_, h6.1 c, h7⟩
        · have := q_nlt c
          exact ⟨_, (h6.2 c).2 (fun c => by have := q_le c; omega), h7⟩
    · omega
  · rcases e0_hasDrum h6 with ⟨_, _, _⟩ | ⟨h6, _⟩
    · omega
    · exact ⟨_, h6.1 rfl, h7.1 rfl⟩

/-! log: how many entries, how many unlike ones. -/
/-! the journey, in numbers without bounds -/
def si (h : Nat → Int) : Nat → Nat → Int
  | _, 0 => 0
  | a, n + 1 => h a + si h (a + 1) n
def ei (f : Nat → Int64) (d a b : Nat) : Int := (f (lx d a b)).toInt
