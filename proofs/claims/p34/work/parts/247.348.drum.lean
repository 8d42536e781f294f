/-! drum: counts of signs. -/
def cg (g : Nat → Int32) (s : Int32) : Nat → Nat → Nat
  | _, 0 => 0
  | a, n + 1 => (if g a = s then 1 else 0) + cg g s (a + 1) n
def sm (p : Nat → Nat) : Nat → Nat → Nat
  | _, 0 => 0
  | a, n + 1 => p a + sm p (a + 1) n
def mx (p : Nat → Nat) : Nat → Nat → Nat
  | _, 0 => 0
  | a, n + 1 => max (p a) (mx p (a + 1) n)
/-- the sign of a flap of a drum -/
def gs (f : Nat → Int64) (d k : Nat) : Int32 := Int64.toInt32 (f (8 + 42 * d + 2 + k))
/-- a drum of the class beside the row's -/
def DX (s : Bd) (f : Nat → Int64) (d : Nat) : Prop := d < 4 ∧ (d : Int) < (s.1 3).toInt ∧ (s.2.1 1 d).toInt = d_f f d ∧ (2 ≤ d_f f d ∧ d_f f d ≤ 40) ∧ DG f d ∧ (∀ k : Nat, (k : Int) < d_f f d → s.2.1 2 (40 * d + k) = gs f d k) ∧ s.2.1 0 d = Int64.toInt32 (f (8 + 42 * d))
theorem DX_of {s : Bd} {f : Nat → Int64} {R W D : Int} {d : Nat} (hf : rw_ok R W D f) (hB : RB s f) (hd : (d : Int) < D) : DX s f d := by
  have hR := hf.2.2.2.2.2.1
  have rc := RB_cells hf hB
  have k := RB_fl hf hB hd
  obtain ⟨b4, b5, b6, b7⟩ := hB.2.1.2 d (by rw [hf.2.2.1]; exact hd)
  exact ⟨by omega, by omega, k.1, k.2, b4, b7, b5⟩
theorem e0_flD {P : Int32 → Prop} {s : Bd} {f : Nat → Int64} {x : Int32} {d : Nat} (hX : DX s f d) (hx : x.toInt = (d : Int)) (h : wp_X0_flapsOn P s x) : ∃ F, P F ∧ F.toInt = d_f f d := by
  obtain ⟨x1, x2, x3, x4, x5, x6, x7⟩ := hX
  have e : x.toInt.toNat = d := by omega
  rcases e0_flapsOn h with ⟨_, h⟩ | ⟨g, _⟩
  · rw [e] at h
    exact ⟨_, h, x3⟩
  · omega
def ul (g : Nat → Int32) (N k : Nat) : Nat := if cg g (g k) (k + 1) (N - (k + 1)) = 0 then 1 else 0
/-! the reference -/
theorem e7_flD {P : Int32 → Prop} {s : Bd} {m : Md} {x : Int32} {d : Nat} (hX : DX s (m.2.2.1 0) d) (hx : x.toInt = (d : Int)) (h : wp_X7_flapsOf P m x) : ∃ F, P F ∧ F.toInt = d_f (m.2.2.1 0) d := by
  obtain ⟨x1, x2, x3, x4, x5, x6, x7⟩ := hX
  have h := e7_flapsOf (by omega) (by omega) h
  have e : x.toInt.toNat = d := by omega
  rw [e] at h
  refine ⟨_, h, ?_⟩
  rw [t32 (by unfold d_f at x4; omega)]
  rfl
def u7 (g : Nat → Int32) (N i : Nat) : Nat := if cg g (nI i) 0 N = 0 then 0 else 1
def m7 (g : Nat → Int32) (N i : Nat) : Nat := cg g (nI i) 0 N

/-! often, usual, and what else counts the log's entries. -/
/-- an entry of the log -/
def lg (f : Nat → Int64) (d a b : Nat) : Int32 := Int64.toInt32 (f (lx d a b))
theorem e0_entAt {P : Int32 → Prop} {B : Int} {s : Bd} {f : Nat → Int64} {x1 x2 x3 x4 : Int32} {d a b : Nat} {R W D : Int} (hf : rw_ok R W D f) (hC : RC B s f) (hi : inL f d a b) (h1 : x1.toInt = (esf f d : Int)) (h2 : x2.toInt = d_f f d) (h3 : x3.toInt = (a : Int)) (h4 : x4.toInt = (b : Int)) (h : wp_X0_entryAt P s x1 x2 x3 x4) : P (lg f d a b) := by
  have e0 : (0 : Int32).toInt = 0 := rfl
  obtain ⟨⟨l1, l2⟩, l3, _⟩ := hC.2.2.2.1
  have ib := inL_b hf hi
  have plt := pc_lt hi
  have bF : ((a * Fn f d : Nat) : Int) = (a : Int) * d_f f d := by rw [Int.natCast_mul, ib.2.2.2.2.1]
  have bF2 : (a : Int) * d_f f d ≤ 1600 := Int.le_trans (Int.mul_le_mul (show (a : Int) ≤ 40 by omega) (show d_f f d ≤ 40 by omega) (by omega) (by decide)) (by decide)
  have bF0 : 0 ≤ (a : Int) * d_f f d := Int.mul_nonneg (by omega) (by omega)
  have m0 := tq_mul x3 x2
  rw [h3, h2] at m0
  have m1 := nw m0 (by omega)
  have m2 := nw (tq_add x1 (x3 * x2)) (by omega)
  have m3 := nw (tq_add (x1 + x3 * x2) x4) (by omega)
  have n0 : (Int32.ofNat s.2.2.2.1).toInt = (s.2.2.2.1 : Int) := tq_ofn (by omega)
  unfold wp_X0_entryAt at h
  have h := ((h.2 (fun g => by have := q_lt g; omega)).2 (fun g => by have := q_le g; omega)).2
  have ix : Int32.toNatClampNeg ((x1 + x3 * x2) + x4) = esf f d + (a * Fn f d + b) := by
    rw [tn_i]
    omega
  rw [ix, l3 d a b hi] at h
  exact h
theorem e7_lgd {P : Int32 → Prop} {m : Md} {x1 x2 x3 : Int32} {d a b : Nat} (hd : d < 4) (ha : a < 40) (hb : b < 40) (h1 : x1.toInt = (d : Int)) (h2 : x2.toInt = (a : Int)) (h3 : x3.toInt = (b : Int)) (h : wp_X7_logged P m x1 x2 x3) : P (lg (m.2.2.1 0) d a b) := by
  have e496 : (496 : Int32).toInt = 496 := rfl
  have e40 : (40 : Int32).toInt = 40 := rfl
  unfold wp_X7_logged at h
  have h := h.2
  have m1 := nw (tq_mulc e40 x1) (by omega)
  have m2 := nw (tq_add (40 * x1) x2) (by omega)
  have m3 := nw (tq_mulc e40 (40 * x1 + x2)) (by omega)
  have m4 := nw (tq_addc e496 (40 * (40 * x1 + x2))) (by omega)
  have m5 := nw (tq_add (496 + 40 * (40 * x1 + x2)) x3) (by omega)
  have ix : Int32.toNatClampNeg ((496 + 40 * (40 * x1 + x2)) + x3) = lx d a b := by
    unfold lx
    rw [tn_i]
    omega
  rw [ix] at h
  exact h
theorem e0_esD {P : Int32 → Prop} {B : Int} {s : Bd} {f : Nat → Int64} {x : Int32} {d : Nat} {R W D : Int} (hf : rw_ok R W D f) (hC : RC B s f) (hx : x.toInt = (d : Int)) (hd : (d : Int) < D) (h : wp_X0_entryStart P s x) : ∃ r, P r ∧ r.toInt = (esf f d : Int) := by
  obtain ⟨z1, z2, z3⟩ := RB_sz hf hC.1
  obtain ⟨r, h, q⟩ := e0_es (f := f) (D := D) z1.2 z2 z3 (by omega) h
  rw [show x.toInt.toNat = d by omega] at q
  exact ⟨r, h, q⟩
/-- entries from a flap (to: 0) or to it -/
def eo (f : Nat → Int64) (d k : Nat) (to : Int32) (o : Nat) : Int32 := if to = 0 then lg f d k o else lg f d o k
theorem inL_of {f : Nat → Int64} {R W D : Int} {d a b : Nat} (hf : rw_ok R W D f) (hd : (d : Int) < D) (ha : (a : Int) < d_f f d) (hb : (b : Int) < d_f f d) : inL f d a b := by
  refine ⟨by rw [hf.2.2.1]; exact hd, ?_, ?_⟩
  · unfold Fn
    omega
  · unfold Fn
    omega

/-! log: how many entries, how many unlike ones. -/
/-! the journey, in numbers without bounds -/
def si (h : Nat → Int) : Nat → Nat → Int
  | _, 0 => 0
  | a, n + 1 => h a + si h (a + 1) n
theorem si_e {p q : Nat → Int} : ∀ n a : Nat, (∀ i, a ≤ i → i < a + n → p i = q i) → si p a n = si q a n := by
  intro n
  induction n with
  | zero => intro a _; rfl
  | succ n ih =>
    intro a g
    show p a + si p (a + 1) n = q a + si q (a + 1) n
    rw [g a (by omega) (by omega), ih (a + 1) (fun i h1 h2 => g i (by omega) (by omega))]
theorem si_le {p q : Nat → Int} : ∀ n a : Nat, (∀ i, a ≤ i → i < a + n → p i ≤ q i) → si p a n ≤ si q a n := by
  intro n
  induction n with
  | zero => intro a _; exact Int.le_refl _
  | succ n ih =>
    intro a g
    have i1 := g a (by omega) (by omega)
    have i2 := ih (a + 1) (fun i h1 h2 => g i (by omega) (by omega))
    show p a + si p (a + 1) n ≤ q a + si q (a + 1) n
    omega
theorem si_nn {h : Nat → Int} : ∀ n a : Nat, (∀ i, a ≤ i → i < a + n → 0 ≤ h i) → 0 ≤ si h a n := by
  intro n
  induction n with
  | zero => intro a _; exact Int.le_refl _
  | succ n ih =>
    intro a g
    have i1 := g a (by omega) (by omega)
    have i2 := ih (a + 1) (fun i h1 h2 => g i (by omega) (by omega))
    show 0 ≤ h a + si h (a + 1) n
    omega
theorem si_ap {h : Nat → Int} : ∀ n a m : Nat, si h a (n + m) = si h a n + si h (a + n) m := by
  intro n
  induction n with
  | zero =>
    intro a m
    rw [Nat.zero_add]
    show si h a m = 0 + si h a m
    omega
  | succ n ih =>
    intro a m
    rw [show n + 1 + m = (n + m) + 1 by omega]
    show h a + si h (a + 1) (n + m) = h a + si h (a + 1) n + si h (a + (n + 1)) m
    rw [ih (a + 1) m, show a + 1 + n = a + (n + 1) by omega]
    omega
theorem si_c {h : Nat → Int} {c : Int} : ∀ n a : Nat, si (fun i => c * h i) a n = c * si h a n := by
  intro n
  induction n with
  | zero => intro a; exact (Int.mul_zero c).symm
  | succ n ih =>
    intro a
    show c * h a + si (fun i => c * h i) (a + 1) n = c * (h a + si h (a + 1) n)
    rw [ih (a + 1), Int.mul_add]
theorem lsm_si (f : Nat → Int64) : ∀ n : Nat, lsm f n = si (fun i => (f (496 + i)).toInt) 0 n := by
  intro n
  induction n with
  | zero => rfl
  | succ n ih =>
    rw [si_ap]
    show lsm f n + (f (496 + n)).toInt = si _ 0 n + ((f (496 + (0 + n))).toInt + 0)
    rw [ih, Nat.zero_add, Int.add_zero]
theorem si_sub {h : Nat → Int} {a n N : Nat} (hn : ∀ i, i < N → 0 ≤ h i) (hN : a + n ≤ N) : si h a n ≤ si h 0 N := by
  have e : N = a + (n + (N - a - n)) := by omega
  have i1 := si_nn (h := h) a 0 (fun i _ h2 => hn i (by omega))
  have i2 := si_nn (h := h) (N - a - n) (a + n) (fun i _ h2 => hn i (by omega))
  rw [e, si_ap a 0, si_ap n (0 + a), Nat.zero_add]
  omega
theorem si_bl {h : Nat → Int} {m : Nat} : ∀ n r : Nat, si (fun a => si (fun b => h (m * a + b)) 0 m) r n = si h (m * r) (m * n) := by
  have sh : ∀ (k a c : Nat), si (fun b => h (c + b)) a k = si h (c + a) k := by
    intro k
    induction k with
    | zero => intro a c; rfl
    | succ k ih =>
      intro a c
      show h (c + a) + si (fun b => h (c + b)) (a + 1) k = h (c + a) + si h (c + a + 1) k
      exact congrArg (h (c + a) + ·) (ih (a + 1) c)
  intro n
  induction n with
  | zero => intro r; rfl
  | succ n ih =>
    intro r
    show si (fun b => h (m * r + b)) 0 m + si (fun a => si (fun b => h (m * a + b)) 0 m) (r + 1) n = _
    have e1 : m * (n + 1) = m + m * n := by rw [Nat.mul_add, Nat.mul_one, Nat.add_comm]
    have e2 : m * (r + 1) = m * r + m := by rw [Nat.mul_add, Nat.mul_one]
    have e3 : si (fun b => h (m * r + b)) 0 m = si h (m * r) m := sh m 0 (m * r)
    rw [ih (r + 1), e3, e1, si_ap, e2]
def ei (f : Nat → Int64) (d a b : Nat) : Int := (f (lx d a b)).toInt
theorem ei_nn {B : Int} {f : Nat → Int64} {d a b : Nat} (h : LB B f) (hd : d < 4) (ha : a < 40) (hb : b < 40) : 0 ≤ ei f d a b ∧ ei f d a b ≤ B := by
  have e : lx d a b = 496 + (40 * (40 * d + a) + b) := rfl
  unfold ei
  rw [e]
  have i1 := h.1 (40 * (40 * d + a) + b) (by omega)
  have i2 := (lsm_ge 6400 h.1).2 (40 * (40 * d + a) + b) (by omega)
  have := h.2
  omega
/-- all entries of a drum together -/
theorem ei_sum {B : Int} {f : Nat → Int64} {d F : Nat} (h : LB B f) (hd : d < 4) (hF : F ≤ 40) : si (fun a => si (ei f d a) 0 F) 0 F ≤ B := by
  have n1 : ∀ i : Nat, i < 6400 → 0 ≤ (fun i => (f (496 + i)).toInt) i := h.1
  have s1 := si_sub (h := fun i => (f (496 + i)).toInt) (a := 40 * (40 * d)) (n := 40 * 40) (N := 6400) n1 (by omega)
  have s2 := h.2
  rw [lsm_si] at s2
  have bl := si_bl (h := fun i => (f (496 + i)).toInt) (m := 40) 40 (40 * d)
  have sh : si (fun a => si (ei f d a) 0 40) 0 40 = si (fun a => si (fun b => (fun i => (f (496 + i)).toInt) (40 * a + b)) 0 40) (40 * d) 40 := by
    have q : ∀ (n a : Nat), si (fun a => si (ei f d a) 0 40) a n = si (fun a => si (fun b => (fun i => (f (496 + i)).toInt) (40 * a + b)) 0 40) (40 * d + a) n := by
      intro n
      induction n with
      | zero => intro a; rfl
      | succ n ih =>
        intro a
        show si (ei f d a) 0 40 + si (fun a => si (ei f d a) 0 40) (a + 1) n = si (fun b => (f (496 + (40 * (40 * d + a) + b))).toInt) 0 40 + si _ (40 * d + a + 1) n
        rw [ih (a + 1)] <;> rfl
    exact q 40 0
  have le1 : si (fun a => si (ei f d a) 0 F) 0 F ≤ si (fun a => si (ei f d a) 0 40) 0 F := by
    refine si_le F 0 (fun a _ a2 => ?_)
    exact si_sub (fun i hi => (ei_nn h hd (by omega) hi).1) (by omega)
  have le2 : si (fun a => si (ei f d a) 0 40) 0 F ≤ si (fun a => si (ei f d a) 0 40) 0 40 := by
    refine si_sub (fun a ha => ?_) (by omega)
    exact si_nn 40 0 (fun b _ b2 => (ei_nn h hd ha (by omega)).1)
  exact Int.le_trans le1 (Int.le_trans le2 (Int.le_trans (Int.le_of_eq (sh.trans bl)) (Int.le_trans s1 s2)))
def i32 (x : Int) : Int32 := Int32.ofInt x
theorem i32_t {r : Int32} {x : Int} (h : r.toInt = x) : r = i32 x := by
  rw [← h]
  exact (Int32.ofInt_toInt r).symm
theorem i32_a (x y : Int) : i32 (x + y) = i32 x + i32 y := Int32.ofInt_add x y
theorem i32_m (x y : Int) : i32 (x * y) = i32 x * i32 y := Int32.ofInt_mul x y
theorem i32_s (x y : Int) : i32 (x - y) = i32 x - i32 y := Int32.ofInt_sub x y
theorem i32_i {x : Int} (h : -2147483648 ≤ x ∧ x < 2147483648) : (i32 x).toInt = x := Int32.toInt_ofInt_of_le (by omega) (by omega)
theorem lg_i {B : Int} {f : Nat → Int64} {d a b : Nat} (hBB : B ≤ 50000000) (h : LB B f) (hd : d < 4) (ha : a < 40) (hb : b < 40) : lg f d a b = i32 (ei f d a b) ∧ (lg f d a b).toInt = ei f d a b := by
  have q := ei_nn h hd ha hb
  have e : (lg f d a b).toInt = ei f d a b := by
    unfold lg
    unfold ei at q ⊢
    rw [t32 (by omega)]
  exact ⟨i32_t e, e⟩
/-- an entry's way, by where its flaps stand -/
def jt (f : Nat → Int64) (d : Nat) (F : Int) (mv : Nat → Nat) (a b : Nat) : Int := ei f d a b * onI (mv a : Int) (mv b : Int) F
def jr (f : Nat → Int64) (d : Nat) (mv : Nat → Nat) : Int := si (fun a => si (jt f d (d_f f d) mv a) 0 (d_f f d).toNat) 0 (d_f f d).toNat
def id1 (x : Nat) : Nat := x
theorem e6_on {P : Int32 → Prop} {x y z : Int32} {F : Int} (hF : 1 ≤ F ∧ F ≤ 40) (hz : z.toInt = F) (hx : 0 ≤ x.toInt ∧ x.toInt < F) (hy : 0 ≤ y.toInt ∧ y.toInt < F) (h : wp_X6_onFrom P x y z) : P (i32 (onI x.toInt y.toInt F)) := by
  have o := onI_d x.toInt y.toInt F
  have m1 := nw (tq_sub y x) (by omega)
  unfold wp_X6_onFrom at h
  by_cases c : y < x
  · have := q_lt c
    have m2 := nw (tq_add (y - x) z) (by omega)
    have e : (y - x) + z = i32 (onI x.toInt y.toInt F) := i32_t (by omega)
    rw [← e]
    exact h.1 c
  · have := q_nlt c
    have e : y - x = i32 (onI x.toInt y.toInt F) := i32_t (by omega)
    rw [← e]
    exact h.2 c
theorem e7_onI {P : Int32 → Prop} {x y z : Int32} {F : Int} (hF : 1 ≤ F ∧ F ≤ 40) (hz : z.toInt = F) (hx : 0 ≤ x.toInt ∧ x.toInt < F) (hy : 0 ≤ y.toInt ∧ y.toInt < F) (h : wp_X7_on P x y z) : P (i32 (onI x.toInt y.toInt F)) := by
  have o := onI_d x.toInt y.toInt F
  obtain ⟨r, h, q⟩ := e7_on (by omega) (by omega) (by omega) h
  have e : r = i32 (onI x.toInt y.toInt F) := i32_t (by omega)
  rw [← e]
  exact h
theorem e0_j_in {P : Int32 → Prop} {E : Int32 → Int32 → Int32 → Int32 → Int32 → Int32 → Prop} {B : Int} {s : Bd} {f : Nat → Int64} {z1 z2 z3 z5 : Int32} {d a : Nat} {R W D : Int} (hBB : B ≤ 50000000) (hf : rw_ok R W D f) (hC : RC B s f) (hd : (d : Int) < D) (hd4 : d < 4) (ha : (a : Int) < d_f f d) (h2 : z2.toInt = (esf f d : Int)) (h3 : z3.toInt = d_f f d) (h5 : z5.toInt = (a : Int)) (hF : d_f f d ≤ 40) : ∀ (n : Nat) (z4 z6 : Int32), 0 ≤ z6.toInt → z6.toInt ≤ d_f f d → wp_X0_journey_L27 s P E n z1 z2 z3 z4 z5 z6 → ∃ z, E z1 z2 z3 (z4 + i32 (si (jt f d (d_f f d) id1 a) z6.toInt.toNat ((d_f f d).toNat - z6.toInt.toNat))) z5 z := by
  have e1 : (1 : Int32).toInt = 1 := rfl
  intro n
  induction n with
  | zero =>
    intro z4 z6 _ _ h
    exact (show False from h).elim
  | succ n ih =>
    intro z4 z6 a1 a2 h
    unfold wp_X0_journey_L27 at h
    by_cases c : z3 ≤ z6
    · have := q_le c
      rw [show (d_f f d).toNat - z6.toInt.toNat = 0 by omega]
      show ∃ z, E z1 z2 z3 (z4 + 0) z5 z
      rw [Int32.add_zero]
      exact ⟨_, h.1 c⟩
    · have := q_nle c
      have s6 := nw (tq_addr e1 z6) (by omega)
      have e6 : (z6 + 1).toInt.toNat = z6.toInt.toNat + 1 := by omega
      have k6 : z6.toInt = ((z6.toInt.toNat : Nat) : Int) := by omega
      have en : (d_f f d).toNat - z6.toInt.toNat = ((d_f f d).toNat - (z6.toInt.toNat + 1)) + 1 := by omega
      have h := e0_entAt (b := z6.toInt.toNat) hf hC (inL_of hf hd ha (by omega)) h2 h3 h5 k6 (h.2 c)
      have h := e6_on (F := d_f f d) (by omega) h3 (by omega) (by omega) h
      rw [(lg_i hBB hC.2.2.2.2 hd4 (by omega) (show z6.toInt.toNat < 40 by omega)).1, ← i32_m] at h
      rw [en]
      show ∃ z, E z1 z2 z3 (z4 + i32 (ei f d a z6.toInt.toNat * onI (a : Int) (z6.toInt.toNat : Int) (d_f f d) + si (jt f d (d_f f d) id1 a) (z6.toInt.toNat + 1) ((d_f f d).toNat - (z6.toInt.toNat + 1)))) z5 z
      rw [i32_a, ← Int32.add_assoc, ← e6, ← k6, ← h5]
      exact ih _ (z6 + 1) (by omega) (by omega) h
theorem e0_j_out {P : Int32 → Prop} {B : Int} {s : Bd} {f : Nat → Int64} {z1 z2 z3 : Int32} {d : Nat} {R W D : Int} (hBB : B ≤ 50000000) (hf : rw_ok R W D f) (hC : RC B s f) (hd : (d : Int) < D) (hd4 : d < 4) (h2 : z2.toInt = (esf f d : Int)) (h3 : z3.toInt = d_f f d) (hF : 0 ≤ d_f f d ∧ d_f f d ≤ 40) : ∀ (n : Nat) (z4 z5 : Int32), 0 ≤ z5.toInt → z5.toInt ≤ d_f f d → wp_X0_journey_L18 s P (fun _ _ _ z4 _ => P z4) n z1 z2 z3 z4 z5 → P (z4 + i32 (si (fun a => si (jt f d (d_f f d) id1 a) 0 (d_f f d).toNat) z5.toInt.toNat ((d_f f d).toNat - z5.toInt.toNat))) := by
  have e1 : (1 : Int32).toInt = 1 := rfl
  have e0 : (0 : Int32).toInt = 0 := rfl
  intro n
  induction n with
  | zero =>
    intro z4 z5 _ _ h
    exact (show False from h).elim
  | succ n ih =>
    intro z4 z5 a1 a2 h
    unfold wp_X0_journey_L18 at h
    by_cases c : z3 ≤ z5
    · have := q_le c
      rw [show (d_f f d).toNat - z5.toInt.toNat = 0 by omega]
      show P (z4 + 0)
      rw [Int32.add_zero]
      exact h.1 c
    · have := q_nle c
      have s5 := nw (tq_addr e1 z5) (by omega)
      have e5 : (z5 + 1).toInt.toNat = z5.toInt.toNat + 1 := by omega
      have en : (d_f f d).toNat - z5.toInt.toNat = ((d_f f d).toNat - (z5.toInt.toNat + 1)) + 1 := by omega
      obtain ⟨n27, h⟩ := h.2 c
      obtain ⟨z, h⟩ := e0_j_in (a := z5.toInt.toNat) hBB hf hC hd hd4 (by omega) h2 h3 (by omega) hF.2 n27 z4 0 (by decide) (by omega) h
      rw [en]
      show P (z4 + i32 (si (jt f d (d_f f d) id1 z5.toInt.toNat) 0 (d_f f d).toNat + si (fun a => si (jt f d (d_f f d) id1 a) 0 (d_f f d).toNat) (z5.toInt.toNat + 1) ((d_f f d).toNat - (z5.toInt.toNat + 1))))
      rw [i32_a, ← Int32.add_assoc, ← e5]
      exact ih _ (z5 + 1) (by omega) (by omega) h
theorem e0_journey {P : Int32 → Prop} {B : Int} {s : Bd} {f : Nat → Int64} {x : Int32} {d : Nat} {R W D : Int} (hBB : B ≤ 50000000) (hf : rw_ok R W D f) (hC : RC B s f) (hd : (d : Int) < D) (hx : x.toInt = (d : Int)) (h : wp_X0_journey P s x) : P (i32 (jr f d id1)) := by
  have e0 : (0 : Int32).toInt = 0 := rfl
  have hX := DX_of hf hC.1 hd
  have x4 := hX.2.2.2.1
  unfold wp_X0_journey at h
  obtain ⟨r1, h, q1⟩ := e0_esD hf hC hx hd h
  obtain ⟨F, h, qF⟩ := e0_flD hX hx h
  obtain ⟨n, h⟩ := h
  have h := e0_j_out hBB hf hC hd hX.1 q1 qF (by omega) n 0 0 (by decide) (by omega) h
  rw [Int32.zero_add] at h
  exact h
/-- where a flap is if two have changed places -/
def mvd (o t x : Nat) : Nat := if x = o then t else if x = t then o else x
theorem e7_moved {P : Int32 → Prop} {x y z : Int32} {a o t : Nat} (hx : x.toInt = (a : Int)) (hy : y.toInt = (o : Int)) (hz : z.toInt = (t : Int)) (h : wp_X7_moved P x y z) : ∃ r, P r ∧ r.toInt = (mvd o t a : Int) := by
  unfold wp_X7_moved at h
  unfold mvd
  by_cases c : x = y
  · have e : a = o := by
      have := congrArg Int32.toInt c
      omega
    rw [if_pos e]
    exact ⟨z, h.2 c, hz⟩
  · have e : ¬ a = o := fun g => c (Int32.toInt_inj.mp (by rw [hx, hy, g]))
    rw [if_neg e]
    have h := h.1 c
    by_cases c2 : x = z
    · have e2 : a = t := by
        have := congrArg Int32.toInt c2
        omega
      rw [if_pos e2]
      exact ⟨y, h.2 c2, hy⟩
    · have e2 : ¬ a = t := fun g => c2 (Int32.toInt_inj.mp (by rw [hx, hz, g]))
      rw [if_neg e2]
      exact ⟨x, h.1 c2, hx⟩
theorem mvd_b {F o t x : Nat} (ho : o < F) (ht : t < F) (hx : x < F) : mvd o t x < F := by
  unfold mvd
  split
  · exact ht
  · split
    · exact ho
    · exact hx
theorem e7_j_in {P : Int32 → Prop} {E : Int32 → Int32 → Int32 → Int32 → Int32 → Int32 → Int32 → Prop} {B F : Int} {m : Md} {z1 z2 z3 z4 z6 : Int32} {d a o t : Nat} (hBB : B ≤ 50000000) (hL : LB B (m.2.2.1 0)) (hd : d < 4) (hF : 1 ≤ F ∧ F ≤ 40) (h4 : z4.toInt = F) (ha : (a : Int) < F) (ho : (o : Int) < F) (ht : (t : Int) < F) (h1 : z1.toInt = (d : Int)) (h2 : z2.toInt = (o : Int)) (h3 : z3.toInt = (t : Int)) (h6 : z6.toInt = (a : Int)) : ∀ (n : Nat) (z5 z7 : Int32), 0 ≤ z7.toInt → z7.toInt ≤ F → wp_X7_journey_L23 m P E n z1 z2 z3 z4 z5 z6 z7 → ∃ z, E z1 z2 z3 z4 (z5 + i32 (si (jt (m.2.2.1 0) d F (mvd o t) a) z7.toInt.toNat (F.toNat - z7.toInt.toNat))) z6 z := by
  have e1 : (1 : Int32).toInt = 1 := rfl
  have e0 : (0 : Int32).toInt = 0 := rfl
  have mb_ : ∀ x : Nat, (x : Int) < F → (mvd o t x : Int) < F := fun x hx => by
    have := mvd_b (F := F.toNat) (o := o) (t := t) (x := x) (by omega) (by omega) (by omega)
    omega
  intro n
  induction n with
  | zero =>
    intro z5 z7 _ _ h
    exact (show False from h).elim
  | succ n ih =>
    intro z5 z7 a1 a2 h
    unfold wp_X7_journey_L23 at h
    by_cases c : z4 ≤ z7
    · have := q_le c
      rw [show F.toNat - z7.toInt.toNat = 0 by omega]
      show ∃ z, E z1 z2 z3 z4 (z5 + 0) z6 z
      rw [Int32.add_zero]
      exact ⟨_, h.1 c⟩
    · have := q_nle c
      have s7 := nw (tq_addr e1 z7) (by omega)
      have e7 : (z7 + 1).toInt.toNat = z7.toInt.toNat + 1 := by omega
      have k7 : z7.toInt = ((z7.toInt.toNat : Nat) : Int) := by omega
      have en : F.toNat - z7.toInt.toNat = (F.toNat - (z7.toInt.toNat + 1)) + 1 := by omega
      have h := e7_lgd (b := z7.toInt.toNat) hd (show a < 40 by omega) (by omega) h1 h6 k7 (h.2 c)
      obtain ⟨l1, l2⟩ := lg_i (a := a) (b := z7.toInt.toNat) hBB hL hd (by omega) (by omega)
      have en0 := (ei_nn (a := a) (b := z7.toInt.toNat) hL hd (by omega) (by omega)).1
      rw [en]
      show ∃ z, E z1 z2 z3 z4 (z5 + i32 (ei (m.2.2.1 0) d a z7.toInt.toNat * onI (mvd o t a : Int) (mvd o t z7.toInt.toNat : Int) F + si (jt (m.2.2.1 0) d F (mvd o t) a) (z7.toInt.toNat + 1) (F.toNat - (z7.toInt.toNat + 1)))) z6 z
      rw [i32_a, ← Int32.add_assoc, ← e7]
      by_cases g : lg (m.2.2.1 0) d a z7.toInt.toNat ≤ 0
      · have := q_le g
        have ez : ei (m.2.2.1 0) d a z7.toInt.toNat = 0 := by omega
        rw [ez, Int.zero_mul, show i32 0 = 0 from rfl, Int32.add_zero]
        exact ih _ (z7 + 1) (by omega) (by omega) (h.1 g)
      · have h := e7_lgd (b := z7.toInt.toNat) hd (show a < 40 by omega) (by omega) h1 h6 k7 (h.2 g)
        obtain ⟨r10, h, q10⟩ := e7_moved h6 h2 h3 h
        obtain ⟨r12, h, q12⟩ := e7_moved k7 h2 h3 h
        have b1 := mb_ a ha
        have b2 := mb_ z7.toInt.toNat (by omega)
        have h := e7_onI hF h4 (by omega) (by omega) h
        rw [q10, q12, l1, ← i32_m] at h
        exact ih _ (z7 + 1) (by omega) (by omega) h
theorem e7_j_out {P : Int32 → Prop} {B F : Int} {m : Md} {z1 z2 z3 z4 : Int32} {d o t : Nat} (hBB : B ≤ 50000000) (hL : LB B (m.2.2.1 0)) (hd : d < 4) (hF : 1 ≤ F ∧ F ≤ 40) (h4 : z4.toInt = F) (ho : (o : Int) < F) (ht : (t : Int) < F) (h1 : z1.toInt = (d : Int)) (h2 : z2.toInt = (o : Int)) (h3 : z3.toInt = (t : Int)) : ∀ (n : Nat) (z5 z6 : Int32), 0 ≤ z6.toInt → z6.toInt ≤ F → wp_X7_journey_L13 m P (fun _ _ _ _ z5 _ => P z5) n z1 z2 z3 z4 z5 z6 → P (z5 + i32 (si (fun a => si (jt (m.2.2.1 0) d F (mvd o t) a) 0 F.toNat) z6.toInt.toNat (F.toNat - z6.toInt.toNat))) := by
  have e1 : (1 : Int32).toInt = 1 := rfl
  have e0 : (0 : Int32).toInt = 0 := rfl
  intro n
  induction n with
  | zero =>
    intro z5 z6 _ _ h
    exact (show False from h).elim
  | succ n ih =>
    intro z5 z6 a1 a2 h
    unfold wp_X7_journey_L13 at h
    by_cases c : z4 ≤ z6
    · have := q_le c
      rw [show F.toNat - z6.toInt.toNat = 0 by omega]
      show P (z5 + 0)
      rw [Int32.add_zero]
      exact h.1 c
    · have := q_nle c
      have s6 := nw (tq_addr e1 z6) (by omega)
      have e6 : (z6 + 1).toInt.toNat = z6.toInt.toNat + 1 := by omega
      have en : F.toNat - z6.toInt.toNat = (F.toNat - (z6.toInt.toNat + 1)) + 1 := by omega
      obtain ⟨n23, h⟩ := h.2 c
      obtain ⟨z, h⟩ := e7_j_in (a := z6.toInt.toNat) hBB hL hd hF h4 (by omega) ho ht h1 h2 h3 (by omega) n23 z5 0 (by decide) (by omega) h
      rw [en]
      show P (z5 + i32 (si (jt (m.2.2.1 0) d F (mvd o t) z6.toInt.toNat) 0 F.toNat + si (fun a => si (jt (m.2.2.1 0) d F (mvd o t) a) 0 F.toNat) (z6.toInt.toNat + 1) (F.toNat - (z6.toInt.toNat + 1))))
      rw [i32_a, ← Int32.add_assoc, ← e6]
      exact ih _ (z6 + 1) (by omega) (by omega) h
theorem e7_journey {P : Int32 → Prop} {B : Int} {s : Bd} {m : Md} {x y z : Int32} {d o t : Nat} {R W D : Int} (hBB : B ≤ 50000000) (hf : rw_ok R W D (m.2.2.1 0)) (hC : RC B s (m.2.2.1 0)) (hd : (d : Int) < D) (hx : x.toInt = (d : Int)) (hy : y.toInt = (o : Int)) (hz : z.toInt = (t : Int)) (ho : (o : Int) < d_f (m.2.2.1 0) d) (ht : (t : Int) < d_f (m.2.2.1 0) d) (h : wp_X7_journey P m x y z) : P (i32 (jr (m.2.2.1 0) d (mvd o t))) := by
  have e0 : (0 : Int32).toInt = 0 := rfl
  have hX := DX_of hf hC.1 hd
  have x4 := hX.2.2.2.1
  unfold wp_X7_journey at h
  obtain ⟨F, h, qF⟩ := e7_flD hX hx h
  obtain ⟨n, h⟩ := h
  have h := e7_j_out hBB hC.2.2.2.2 hX.1 (by omega) qF ho ht hx hy hz n 0 0 (by decide) (by omega) h
  rw [Int32.zero_add] at h
  exact h
theorem mvd_0 : mvd 0 0 = id1 := by
  funext x
  unfold mvd id1
  by_cases c : x = 0
  · rw [if_pos c, c]
  · rw [if_neg c, if_neg c]

/-! better. -/
theorem si_add {p q : Nat → Int} : ∀ n a : Nat, si (fun i => p i + q i) a n = si p a n + si q a n := by
  intro n
  induction n with
  | zero => intro a; rfl
  | succ n ih =>
    intro a
    show (p a + q a) + si (fun i => p i + q i) (a + 1) n = (p a + si p (a + 1) n) + (q a + si q (a + 1) n)
    rw [ih (a + 1)]
    omega
theorem si_dif {p q : Nat → Int} : ∀ n a : Nat, si (fun i => p i - q i) a n = si p a n - si q a n := by
  intro n
  induction n with
  | zero => intro a; rfl
  | succ n ih =>
    intro a
    show (p a - q a) + si (fun i => p i - q i) (a + 1) n = (p a + si p (a + 1) n) - (q a + si q (a + 1) n)
    rw [ih (a + 1)]
    omega
theorem si_0 {h : Nat → Int} : ∀ n a : Nat, (∀ i, a ≤ i → i < a + n → h i = 0) → si h a n = 0 := by
  intro n
  induction n with
  | zero => intro a _; rfl
  | succ n ih =>
    intro a g
    have i1 := g a (by omega) (by omega)
    have i2 := ih (a + 1) (fun i h1 h2 => g i (by omega) (by omega))
    show h a + si h (a + 1) n = 0
    omega
theorem si_pt {h : Nat → Int} {k : Nat} : ∀ n a : Nat, a ≤ k → k < a + n → si h a n = si (fun x => if x = k then 0 else h x) a n + h k := by
  intro n
  induction n with
  | zero => intro a h1 h2; omega
  | succ n ih =>
    intro a h1 h2
    show h a + si h (a + 1) n = (if a = k then 0 else h a) + si (fun x => if x = k then 0 else h x) (a + 1) n + h k
    by_cases c : a = k
    · rw [if_pos c, c, si_e (p := fun x => if x = k then 0 else h x) (q := h) n (k + 1) (fun i i1 i2 => if_neg (by omega))]
      omega
    · rw [if_neg c, ih (a + 1) (by omega) (by omega)]
      omega
/-- but for two places -/
def ex2 (o t : Nat) (h : Nat → Int) (x : Nat) : Int := if x = t then 0 else if x = o then 0 else h x
theorem ex2_z {h : Nat → Int} {o t x : Nat} (c : x = o ∨ x = t) : ex2 o t h x = 0 := by
  unfold ex2
  by_cases c1 : x = t
  · exact if_pos c1
  · rw [if_neg c1]
    rcases c with c | c
    · exact if_pos c
    · exact (c1 c).elim
theorem ex2_n {h : Nat → Int} {o t x : Nat} (c1 : ¬ x = o) (c2 : ¬ x = t) : ex2 o t h x = h x := by
  unfold ex2
  rw [if_neg c2]
  exact if_neg c1
theorem si_2 {h : Nat → Int} {o t N : Nat} (ho : o < N) (ht : t < N) (ne : ¬ o = t) : si h 0 N = si (ex2 o t h) 0 N + h o + h t := by
  have s1 := si_pt (h := h) (k := o) N 0 (by omega) (by omega)
  have s2 := si_pt (h := fun x => if x = o then 0 else h x) (k := t) N 0 (by omega) (by omega)
  have e : (if t = o then 0 else h t) = h t := if_neg (fun g => ne g.symm)
  have s3 : si (fun x => if x = o then 0 else h x) 0 N = si (ex2 o t h) 0 N + h t := s2.trans (congrArg (fun y => si (ex2 o t h) 0 N + y) e)
  rw [s1, s3]
  omega
theorem prod4 (a b c d : Int) : (a - b) * (c - d) = a * c - a * d - (b * c - b * d) := by rw [Int.sub_mul, Int.mul_sub, Int.mul_sub]
theorem onI_z (x F : Int) : onI x x F = 0 := by
  have := onI_d x x F
  omega
theorem mvd_o (o t : Nat) : mvd o t o = t := by
  unfold mvd
  rw [if_pos rfl]
theorem mvd_t {o t : Nat} (ne : ¬ o = t) : mvd o t t = o := by
  unfold mvd
  rw [if_neg (fun g => ne g.symm), if_pos rfl]
theorem mvd_x {o t x : Nat} (ho : ¬ x = o) (ht : ¬ x = t) : mvd o t x = x := by
  unfold mvd
  rw [if_neg ho, if_neg ht]
/-- how much an entry's way changes -/
def jg (f : Nat → Int64) (d : Nat) (F : Int) (o t a b : Nat) : Int := jt f d F (mvd o t) a b - jt f d F id1 a b
/-- what the class adds up for another flap -/
def jk (f : Nat → Int64) (d : Nat) (F : Int) (o t x : Nat) : Int := (ei f d o x - ei f d t x) * (onI t x F - onI o x F) + (ei f d x o - ei f d x t) * (onI x t F - onI x o F)
def jc0 (f : Nat → Int64) (d : Nat) (F : Int) (o t : Nat) : Int := (ei f d o t - ei f d t o) * (onI t o F - onI o t F)
theorem jg_z {f : Nat → Int64} {d : Nat} {F : Int} {o t a b : Nat} (a1 : ¬ a = o) (a2 : ¬ a = t) (b1 : ¬ b = o) (b2 : ¬ b = t) : jg f d F o t a b = 0 := by
  unfold jg jt id1
  rw [mvd_x a1 a2, mvd_x b1 b2]
  exact Int.sub_self _
theorem jc_e {f : Nat → Int64} {d : Nat} {F : Int} {o t N : Nat} (ho : o < N) (ht : t < N) (ne : ¬ o = t) : si (fun a => si (jt f d F (mvd o t) a) 0 N) 0 N - si (fun a => si (jt f d F id1 a) 0 N) 0 N = jc0 f d F o t + si (ex2 o t (jk f d F o t)) 0 N := by
  rw [← si_dif]
  have rows : si (fun a => si (jt f d F (mvd o t) a) 0 N - si (jt f d F id1 a) 0 N) 0 N = si (fun a => si (jg f d F o t a) 0 N) 0 N := si_e N 0 (fun a _ _ => (si_dif N 0).symm)
  rw [rows, si_2 (h := fun a => si (jg f d F o t a) 0 N) ho ht ne]
  have r0 : si (ex2 o t (fun a => si (jg f d F o t a) 0 N)) 0 N = si (ex2 o t (fun x => jg f d F o t x o + jg f d F o t x t)) 0 N := by
    refine si_e N 0 (fun x _ _ => ?_)
    by_cases c : x = o ∨ x = t
    · rw [ex2_z c, ex2_z c]
    · have c1 : ¬ x = o := fun g => c (Or.inl g)
      have c2 : ¬ x = t := fun g => c (Or.inr g)
      rw [ex2_n c1 c2, ex2_n c1 c2]
      have s := si_2 (h := jg f d F o t x) ho ht ne
      have z := si_0 (h := ex2 o t (jg f d F o t x)) N 0 (fun b _ _ => by
        by_cases g : b = o ∨ b = t
        · exact ex2_z g
        · rw [ex2_n (fun q => g (Or.inl q)) (fun q => g (Or.inr q))]
          exact jg_z c1 c2 (fun q => g (Or.inl q)) (fun q => g (Or.inr q)))
      show si (jg f d F o t x) 0 N = jg f d F o t x o + jg f d F o t x t
      omega
  rw [r0]
  show _ + si (jg f d F o t o) 0 N + si (jg f d F o t t) 0 N = _
  have s4 := si_2 (h := jg f d F o t o) ho ht ne
  have s5 := si_2 (h := jg f d F o t t) ho ht ne
  have oo : jg f d F o t o o = 0 := by
    unfold jg jt id1
    rw [mvd_o, onI_z, onI_z]
    omega
  have tt : jg f d F o t t t = 0 := by
    unfold jg jt id1
    rw [mvd_t ne, onI_z, onI_z]
    omega
  have ot : jg f d F o t o t + jg f d F o t t o = jc0 f d F o t := by
    unfold jg jt id1 jc0
    rw [mvd_o, mvd_t ne, prod4]
    omega
  have three : si (ex2 o t (fun x => jg f d F o t x o + jg f d F o t x t)) 0 N + si (ex2 o t (jg f d F o t o)) 0 N + si (ex2 o t (jg f d F o t t)) 0 N = si (ex2 o t (jk f d F o t)) 0 N := by
    rw [← si_add, ← si_add]
    refine si_e N 0 (fun x _ _ => ?_)
    show ex2 o t (fun x => jg f d F o t x o + jg f d F o t x t) x + ex2 o t (jg f d F o t o) x + ex2 o t (jg f d F o t t) x = ex2 o t (jk f d F o t) x
    by_cases c : x = o ∨ x = t
    · rw [ex2_z c, ex2_z c, ex2_z c, ex2_z c]
      omega
    · have c1 : ¬ x = o := fun g => c (Or.inl g)
      have c2 : ¬ x = t := fun g => c (Or.inr g)
      rw [ex2_n c1 c2, ex2_n c1 c2, ex2_n c1 c2, ex2_n c1 c2]
      show jg f d F o t x o + jg f d F o t x t + jg f d F o t o x + jg f d F o t t x = jk f d F o t x
      unfold jg jt id1 jk
      rw [mvd_o, mvd_t ne, mvd_x c1 c2, prod4, prod4]
      omega
  omega
theorem jr_b {B : Int} {f : Nat → Int64} {d : Nat} {mv : Nat → Nat} (h : LB B f) (hd : d < 4) (hF : 1 ≤ d_f f d ∧ d_f f d ≤ 40) (hm : ∀ x : Nat, (x : Int) < d_f f d → (mv x : Int) < d_f f d) : 0 ≤ jr f d mv ∧ jr f d mv ≤ 39 * B := by
  have on : ∀ a b : Nat, (a : Int) < d_f f d → (b : Int) < d_f f d → 0 ≤ onI (mv a : Int) (mv b : Int) (d_f f d) ∧ onI (mv a : Int) (mv b : Int) (d_f f d) ≤ 39 := fun a b ha hb => by
    have o := onI_d (mv a : Int) (mv b : Int) (d_f f d)
    have := hm a ha
    have := hm b hb
    omega
  have tb : ∀ a b : Nat, (a : Int) < d_f f d → (b : Int) < d_f f d → 0 ≤ jt f d (d_f f d) mv a b ∧ jt f d (d_f f d) mv a b ≤ 39 * ei f d a b := fun a b ha hb => by
    have o := on a b ha hb
    have e := (ei_nn (a := a) (b := b) h hd (by omega) (by omega)).1
    unfold jt
    refine ⟨Int.mul_nonneg e o.1, ?_⟩
    rw [Int.mul_comm 39]
    exact Int.mul_le_mul_of_nonneg_left o.2 e
  unfold jr
  refine ⟨si_nn _ 0 (fun a _ a2 => si_nn _ 0 (fun b _ b2 => (tb a b (by omega) (by omega)).1)), ?_⟩
  have s1 : si (fun a => si (jt f d (d_f f d) mv a) 0 (d_f f d).toNat) 0 (d_f f d).toNat ≤ si (fun a => 39 * si (ei f d a) 0 (d_f f d).toNat) 0 (d_f f d).toNat := by
    refine si_le _ 0 (fun a _ a2 => ?_)
    rw [← si_c]
    exact si_le _ 0 (fun b _ b2 => (tb a b (by omega) (by omega)).2)
  rw [si_c] at s1
  have s2 := ei_sum (F := (d_f f d).toNat) h hd (by omega)
  omega
theorem e0_jc_L {P : Int32 → Prop} {B : Int} {s : Bd} {f : Nat → Int64} {z1 z2 z3 z4 z5 z6 : Int32} {d o t : Nat} {R W D : Int} (hBB : B ≤ 50000000) (hf : rw_ok R W D f) (hC : RC B s f) (hd : (d : Int) < D) (hd4 : d < 4) (ho : (o : Int) < d_f f d) (ht : (t : Int) < d_f f d) (h2 : z2.toInt = (o : Int)) (h3 : z3.toInt = (t : Int)) (h4 : z4.toInt = (esf f d : Int)) (h5 : z5.toInt = d_f f d) (hF : d_f f d ≤ 40) : ∀ (n : Nat) (z7 z8 : Int32), 0 ≤ z8.toInt → z8.toInt ≤ d_f f d → wp_X0_journeyChange_L60 s P (fun _ _ _ _ _ _ z7 _ => P z7) n z1 z2 z3 z4 z5 z6 z7 z8 → P (z7 + i32 (si (ex2 o t (jk f d (d_f f d) o t)) z8.toInt.toNat ((d_f f d).toNat - z8.toInt.toNat))) := by
  have e1 : (1 : Int32).toInt = 1 := rfl
  intro n
  induction n with
  | zero =>
    intro z7 z8 _ _ h
    exact (show False from h).elim
  | succ n ih =>
    intro z7 z8 a1 a2 h
    unfold wp_X0_journeyChange_L60 at h
    by_cases c : z5 ≤ z8
    · have := q_le c
      rw [show (d_f f d).toNat - z8.toInt.toNat = 0 by omega]
      show P (z7 + 0)
      rw [Int32.add_zero]
      exact h.1 c
    · have := q_nle c
      have h := h.2 c
      have s8 := nw (tq_addr e1 z8) (by omega)
      have e8 : (z8 + 1).toInt.toNat = z8.toInt.toNat + 1 := by omega
      have k8 : z8.toInt = ((z8.toInt.toNat : Nat) : Int) := by omega
      have en : (d_f f d).toNat - z8.toInt.toNat = ((d_f f d).toNat - (z8.toInt.toNat + 1)) + 1 := by omega
      rw [en]
      show P (z7 + i32 (ex2 o t (jk f d (d_f f d) o t) z8.toInt.toNat + si (ex2 o t (jk f d (d_f f d) o t)) (z8.toInt.toNat + 1) ((d_f f d).toNat - (z8.toInt.toNat + 1))))
      rw [i32_a, ← Int32.add_assoc, ← e8]
      have skip : ex2 o t (jk f d (d_f f d) o t) z8.toInt.toNat = 0 → wp_X0_journeyChange_L60 s P (fun _ _ _ _ _ _ z7 _ => P z7) n z1 z2 z3 z4 z5 z6 z7 (z8 + 1) → P (z7 + i32 (ex2 o t (jk f d (d_f f d) o t) z8.toInt.toNat) + i32 (si (ex2 o t (jk f d (d_f f d) o t)) (z8 + 1).toInt.toNat ((d_f f d).toNat - (z8 + 1).toInt.toNat))) := fun e h => by
        rw [e, show i32 0 = 0 from rfl, Int32.add_zero]
        exact ih _ (z8 + 1) (by omega) (by omega) h
      by_cases c2 : z8 = z2
      · refine skip (ex2_z (Or.inl ?_)) (h.1 c2)
        rw [c2]
        omega
      have h := h.2 c2
      by_cases c3 : z8 = z3
      · refine skip (ex2_z (Or.inr ?_)) (h.1 c3)
        rw [c3]
        omega
      have h := h.2 c3
      have n2 : ¬ z8.toInt.toNat = o := fun g => c2 (Int32.toInt_inj.mp (by omega))
      have n3 : ¬ z8.toInt.toNat = t := fun g => c3 (Int32.toInt_inj.mp (by omega))
      have hx : ((z8.toInt.toNat : Nat) : Int) < d_f f d := by omega
      have h := e0_entAt hf hC (inL_of hf hd ho hx) h4 h5 h2 k8 h
      have h := e0_entAt hf hC (inL_of hf hd ht hx) h4 h5 h3 k8 h
      have h := e0_entAt hf hC (inL_of hf hd hx ho) h4 h5 k8 h2 h
      have h := e0_entAt hf hC (inL_of hf hd hx ht) h4 h5 k8 h3 h
      have h := e6_on (F := d_f f d) (by omega) h5 (by omega) (by omega) h
      have h := e6_on (F := d_f f d) (by omega) h5 (by omega) (by omega) h
      have h := e6_on (F := d_f f d) (by omega) h5 (by omega) (by omega) h
      have h := e6_on (F := d_f f d) (by omega) h5 (by omega) (by omega) h
      rw [(lg_i (a := o) (b := z8.toInt.toNat) hBB hC.2.2.2.2 hd4 (by omega) (by omega)).1, (lg_i (a := t) (b := z8.toInt.toNat) hBB hC.2.2.2.2 hd4 (by omega) (by omega)).1, (lg_i (a := z8.toInt.toNat) (b := o) hBB hC.2.2.2.2 hd4 (by omega) (by omega)).1, (lg_i (a := z8.toInt.toNat) (b := t) hBB hC.2.2.2.2 hd4 (by omega) (by omega)).1, h2, h3, k8, ← i32_s, ← i32_s, ← i32_s, ← i32_s, ← i32_m, ← i32_m, Int32.add_assoc, ← i32_a, ← k8] at h
      rw [ex2_n n2 n3]
      unfold jk
      rw [← k8]
      exact ih _ (z8 + 1) (by omega) (by omega) h
theorem e0_jc {P : Int32 → Prop} {B : Int} {s : Bd} {f : Nat → Int64} {x1 x2 x3 : Int32} {d o t : Nat} {R W D : Int} (hBB : B ≤ 50000000) (hf : rw_ok R W D f) (hC : RC B s f) (hd : (d : Int) < D) (hx : x1.toInt = (d : Int)) (h2 : x2.toInt = (o : Int)) (h3 : x3.toInt = (t : Int)) (ho : (o : Int) < d_f f d) (ht : (t : Int) < d_f f d) (ne : ¬ o = t) (h : wp_X0_journeyChange P s x1 x2 x3) : P (i32 (jr f d (mvd o t) - jr f d id1)) := by
  have e0 : (0 : Int32).toInt = 0 := rfl
  have hX := DX_of hf hC.1 hd
  have x4 := hX.2.2.2.1
  unfold wp_X0_journeyChange at h
  obtain ⟨r1, h, q1⟩ := e0_esD hf hC hx hd h
  obtain ⟨F, h, qF⟩ := e0_flD hX hx h
  have h := e0_entAt hf hC (inL_of hf hd ho ht) q1 qF h2 h3 h
  have h := e0_entAt hf hC (inL_of hf hd ht ho) q1 qF h3 h2 h
  have h := e6_on (F := d_f f d) (by omega) qF (by omega) (by omega) h
  have h := e6_on (F := d_f f d) (by omega) qF (by omega) (by omega) h
  obtain ⟨n, h⟩ := h
  rw [(lg_i (a := o) (b := t) hBB hC.2.2.2.2 hX.1 (by omega) (by omega)).1, (lg_i (a := t) (b := o) hBB hC.2.2.2.2 hX.1 (by omega) (by omega)).1, h2, h3, ← i32_s, ← i32_s, ← i32_m] at h
  have h := e0_jc_L hBB hf hC hd hX.1 ho ht h2 h3 q1 qF x4.2 n _ 0 (by decide) (by omega) h
  rw [← i32_a] at h
  have e := jc_e (f := f) (d := d) (F := d_f f d) (o := o) (t := t) (N := (d_f f d).toNat) (by omega) (by omega) ne
  unfold jr
  rw [e]
  exact h
/-- the best two found so far, as both hold them -/
def BTr (f : Nat → Int64) (d : Nat) (l6 a6 b6 l7 a7 b7 : Int32) : Prop := ∃ cur : Int, l6 = i32 (cur - jr f d id1) ∧ l7 = i32 cur ∧ (0 ≤ cur ∧ cur ≤ jr f d id1) ∧ ((a6 = -1 ∧ a7 = -2) ∨ (a6 = a7 ∧ b6 = b7 ∧ 0 ≤ a6.toInt))
theorem sq_be_in {P6 P7 : Int32 → Prop} {E6 : Int32 → Int32 → Int32 → Int32 → Int32 → Int32 → Int32 → Int32 → Prop} {E7 : Int32 → Int32 → Int32 → Int32 → Int32 → Int32 → Int32 → Prop} {B : Int} {s : Bd} {m : Md} {x w F6 a : Int32} {d : Nat} {R W D : Int} (hBB : B ≤ 50000000) (hf : rw_ok R W D (m.2.2.1 0)) (hC : RC B s (m.2.2.1 0)) (hd : (d : Int) < D) (hx : x.toInt = (d : Int)) (hF6 : F6.toInt = d_f (m.2.2.1 0) d) (ha : 0 ≤ a.toInt ∧ a.toInt < d_f (m.2.2.1 0) d) : ∀ (n6 n7 : Nat) (l6 a6 b6 l7 a7 b7 z : Int32), a.toInt < z.toInt → z.toInt ≤ d_f (m.2.2.1 0) d → BTr (m.2.2.1 0) d l6 a6 b6 l7 a7 b7 → wp_X6_better_L55 s P6 E6 n6 x w F6 l6 a6 b6 a z → wp_X7_better_L57 m P7 E7 n7 x w l7 a7 b7 a z → ∃ l6' a6' b6' l7' a7' b7' z6 z7, E6 x w F6 l6' a6' b6' a z6 ∧ E7 x w l7' a7' b7' a z7 ∧ BTr (m.2.2.1 0) d l6' a6' b6' l7' a7' b7' := by
  have e1 : (1 : Int32).toInt = 1 := rfl
  have hX := DX_of hf hC.1 hd
  have x4 := hX.2.2.2.1
  have J0 := jr_b (mv := id1) hC.2.2.2.2 hX.1 (by omega) (fun _ h => h)
  intro n6
  induction n6 with
  | zero =>
    intro n7 l6 a6 b6 l7 a7 b7 z _ _ _ h
    exact (show False from h).elim
  | succ n6 ih =>
    intro n7 l6 a6 b6 l7 a7 b7 z h0 h1 hR h6 h7
    cases n7 with
    | zero => exact (show False from h7).elim
    | succ n7 =>
      unfold wp_X6_better_L55 at h6
      unfold wp_X7_better_L57 at h7
      obtain ⟨F7, h7, q7⟩ := e7_flD hX hx h7
      have eF : F7 = F6 := Int32.toInt_inj.mp (by omega)
      subst eF
      by_cases c : F7 ≤ z
      · exact ⟨l6, a6, b6, l7, a7, b7, z, z, h6.1 c, h7.1 c, hR⟩
      · have := q_nle c
        have sz := nw (tq_addr e1 z) (by omega)
        have ka : a.toInt = ((a.toInt.toNat : Nat) : Int) := by omega
        have kz : z.toInt = ((z.toInt.toNat : Nat) : Int) := by omega
        have h6 := e0_jc (o := a.toInt.toNat) (t := z.toInt.toNat) hBB hf hC hd hx ka kz (by omega) (by omega) (by omega) (h6.2 c)
        have h7 := e7_journey (o := a.toInt.toNat) (t := z.toInt.toNat) hBB hf hC hd hx ka kz (by omega) (by omega) (h7.2 c)
        have Jn := jr_b (mv := mvd a.toInt.toNat z.toInt.toNat) hC.2.2.2.2 hX.1 (by omega) (fun y hy => by
          have := mvd_b (F := (d_f (m.2.2.1 0) d).toNat) (o := a.toInt.toNat) (t := z.toInt.toNat) (x := y) (by omega) (by omega) (by omega)
          omega)
        generalize hJ : jr (m.2.2.1 0) d (mvd a.toInt.toNat z.toInt.toNat) = J at h6 h7 Jn
        obtain ⟨cur, u1, u2, u3, u4⟩ := hR
        have t1 := i32_i (x := J - jr (m.2.2.1 0) d id1) (by omega)
        have t2 := i32_i (x := J) (by omega)
        have t3 := i32_i (x := cur - jr (m.2.2.1 0) d id1) (by omega)
        have t4 := i32_i (x := cur) (by omega)
        rw [← u1] at t3
        rw [← u2] at t4
        by_cases g : i32 J < l7
        · have := q_lt g
          have h6 := h6.2 (fun q => by have := q_le q; omega)
          exact ih n7 _ a z _ a z (z + 1) (by omega) (by omega) ⟨J, rfl, rfl, by omega, Or.inr ⟨rfl, rfl, ha.1⟩⟩ h6 (h7.1 g)
        · have := q_nlt g
          exact ih n7 l6 a6 b6 l7 a7 b7 (z + 1) (by omega) (by omega) ⟨cur, u1, u2, u3, u4⟩ (h6.1 (Int32.le_iff_toInt_le.mpr (by omega))) (h7.2 g)
theorem sq_be_L {P6 P7 : Int32 → Prop} {B : Int} {s : Bd} {m : Md} {x w F6 : Int32} {d : Nat} {R W D : Int} (hBB : B ≤ 50000000) (hf : rw_ok R W D (m.2.2.1 0)) (hC : RC B s (m.2.2.1 0)) (hd : (d : Int) < D) (hx : x.toInt = (d : Int)) (hF6 : F6.toInt = d_f (m.2.2.1 0) d) : ∀ (n6 n7 : Nat) (l6 a6 b6 l7 a7 b7 z : Int32), 0 ≤ z.toInt → z.toInt ≤ d_f (m.2.2.1 0) d → BTr (m.2.2.1 0) d l6 a6 b6 l7 a7 b7 → wp_X6_better_L43 s P6 (fun z1 z2 z3 z4 z5 z6 z7 => ((¬ z5 = (-1) → ((¬ z2 = 0 → ((¬ z2 = 1 → P6 z6) ∧ (z2 = 1 → P6 z5))) ∧ (z2 = 0 → wp_X0_journey (fun r_16 => P6 (r_16 + z4)) s z1))) ∧ (z5 = (-1) → P6 (-2)))) n6 x w F6 l6 a6 b6 z → wp_X7_better_L41 m P7 (fun z1 z2 z3 z4 z5 z6 => ((¬ z4 = (-2) → ((¬ z2 = 0 → ((¬ z2 = 1 → P7 z5) ∧ (z2 = 1 → P7 z4))) ∧ (z2 = 0 → P7 z3))) ∧ (z4 = (-2) → P7 (-2)))) n7 x w l7 a7 b7 z → ∃ r, P6 r ∧ P7 r := by
  have e1 : (1 : Int32).toInt = 1 := rfl
  have em1 : (-1 : Int32).toInt = -1 := rfl
  have em2 : (-2 : Int32).toInt = -2 := rfl
  have hX := DX_of hf hC.1 hd
  have x4 := hX.2.2.2.1
  intro n6
  induction n6 with
  | zero =>
    intro n7 l6 a6 b6 l7 a7 b7 z _ _ _ h
    exact (show False from h).elim
  | succ n6 ih =>
    intro n7 l6 a6 b6 l7 a7 b7 z h0 h1 hR h6 h7
    cases n7 with
    | zero => exact (show False from h7).elim
    | succ n7 =>
      unfold wp_X6_better_L43 at h6
      unfold wp_X7_better_L41 at h7
      obtain ⟨F7, h7, q7⟩ := e7_flD hX hx h7
      have eF : F7 = F6 := Int32.toInt_inj.mp (by omega)
      subst eF
      by_cases c : F7 ≤ z
      · have h6 := h6.1 c
        have h7 := h7.1 c
        obtain ⟨cur, u1, u2, u3, u4⟩ := hR
        rcases u4 with ⟨u4, u5⟩ | ⟨u4, u5, u6⟩
        · exact ⟨_, h6.2 u4, h7.2 u5⟩
        · have h6 := h6.1 (fun g => by rw [g] at u6; omega)
          have h7 := h7.1 (fun g => by rw [u4, g] at u6; omega)
          by_cases c0 : w = 0
          · have h6 := e0_journey hBB hf hC hd hx (h6.2 c0)
            have h7 := h7.2 c0
            rw [u1, ← i32_a, show jr (m.2.2.1 0) d id1 + (cur - jr (m.2.2.1 0) d id1) = cur by omega, ← u2] at h6
            exact ⟨_, h6, h7⟩
          · have h6 := h6.1 c0
            have h7 := h7.1 c0
            by_cases c1 : w = 1
            · have h6 := h6.2 c1
              rw [u4] at h6
              exact ⟨_, h6, h7.2 c1⟩
            · have h6 := h6.1 c1
              rw [u5] at h6
              exact ⟨_, h6, h7.1 c1⟩
      · have := q_nle c
        have sz := nw (tq_addr e1 z) (by omega)
        obtain ⟨n55, h6⟩ := h6.2 c
        obtain ⟨n57, h7⟩ := h7.2 c
        obtain ⟨l6', a6', b6', l7', a7', b7', z6, z7, h6, h7, hR⟩ := sq_be_in hBB hf hC hd hx hF6 ⟨h0, by omega⟩ n55 n57 l6 a6 b6 l7 a7 b7 (z + 1) (by omega) (by omega) hR h6 h7
        exact ih n7 l6' a6' b6' l7' a7' b7' (z + 1) (by omega) (by omega) hR h6 h7
theorem sq_better {P6 P7 : Int32 → Prop} {s2 : Bd} {m : Md} {x1 x2 : Int32} {B N R W D : Int} (hBB : B ≤ 50000000) (hC : RC B s2 (m.2.2.1 0)) (hM : mb N R W D m) (hs : R ≤ 0 ∨ 0 < D) (h6 : wp_X6_better P6 s2 x1 x2) (h7 : wp_X7_better P7 m x1 x2) : ∃ r, P6 r ∧ P7 r := by
  have e0 : (0 : Int32).toInt = 0 := rfl
  have e1 : (1 : Int32).toInt = 1 := rfl
  have e2 : (2 : Int32).toInt = 2 := rfl
  have hB := hC.1
  have hf := hM.2.2.2.2.1
  have hR := hf.2.2.2.2.2.1
  have rc := RB_cells hf hB
  unfold wp_X6_better at h6
  unfold wp_X7_better at h7
  rcases e7_isDrum hf h7 with ⟨h7, g1, g2⟩ | ⟨h7, g⟩
  · rcases e0_hasDrum h6 with ⟨h6, _, _⟩ | ⟨_, g⟩
    · have h6 := h6.2 (by decide)
      obtain ⟨d, hx⟩ : ∃ d : Nat, x1.toInt = (d : Int) := ⟨x1.toInt.toNat, by omega⟩
      have hd : (d : Int) < D := by omega
      have hX := DX_of hf hB hd
      have x4 := hX.2.2.2.1
      rcases e7_inC (i := 0) (j := 2) rfl rfl (h7.2 (by decide)) with ⟨h7, j1, j2⟩ | ⟨h7, j⟩
      · have h6 := (h6.2 (fun c => by have := q_lt c; omega)).1 (Int32.le_iff_toInt_le.mpr (by omega))
        obtain ⟨F, h6, qF⟩ := e0_flD hX hx h6
        obtain ⟨n6, h6⟩ := h6
        have h7 := e7_journey (o := 0) (t := 0) hBB hf hC hd hx rfl rfl (by omega) (by omega) (h7.1 (by decide))
        rw [mvd_0] at h7
        obtain ⟨n7, h7⟩ := h7
        have J0 := jr_b (mv := id1) hC.2.2.2.2 hX.1 (by omega) (fun _ h => h)
        refine sq_be_L hBB hf hC hd hx qF n6 n7 0 (-1) (-1) _ (-2) (-2) 1 (by decide) (by omega) ⟨jr (m.2.2.1 0) d id1, ?_, rfl, by omega, Or.inl ⟨rfl, rfl⟩⟩ h6 h7
        rw [Int.sub_self] <;> first | rfl | decide
      · have h7 := h7.2 rfl
        by_cases c : x2 < 0
        · exact ⟨_, h6.1 c, h7⟩
        · have := q_nlt c
          exact ⟨_, (h6.2 c).2 (fun c => by have := q_le c; omega), h7⟩
    · omega
  · rcases e0_hasDrum h6 with ⟨_, _, _⟩ | ⟨h6, _⟩
    · omega
    · exact ⟨_, h6.1 rfl, h7.1 rfl⟩
