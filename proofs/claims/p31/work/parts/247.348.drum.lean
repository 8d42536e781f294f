/-! drum: counts of signs. -/
def cg (g : Nat → Int32) (s : Int32) : Nat → Nat → Nat
  | _, 0 => 0
  | a, n + 1 => (if g a = s then 1 else 0) + cg g s (a + 1) n
def sm (p : Nat → Nat) : Nat → Nat → Nat
  | _, 0 => 0
  | a, n + 1 => p a + sm p (a + 1) n
def mx (p : Nat → Nat) : Nat → Nat → Nat
  | _, 0 => 0
  | a, n + 1 => max (p a) (mx p (a + 1) n)
/-- the sign of a flap of a drum -/
def gs (f : Nat → Int64) (d k : Nat) : Int32 := Int64.toInt32 (f (8 + 42 * d + 2 + k))
/-- a drum of the class beside the row's -/
def DX (s : Bd) (f : Nat → Int64) (d : Nat) : Prop := d < 4 ∧ (d : Int) < (s.1 3).toInt ∧ (s.2.1 1 d).toInt = d_f f d ∧ (2 ≤ d_f f d ∧ d_f f d ≤ 40) ∧ DG f d ∧ (∀ k : Nat, (k : Int) < d_f f d → s.2.1 2 (40 * d + k) = gs f d k) ∧ s.2.1 0 d = Int64.toInt32 (f (8 + 42 * d))
theorem DX_of {s : Bd} {f : Nat → Int64} {R W D : Int} {d : Nat} (hf : rw_ok R W D f) (hB : RB s f) (hd : (d : Int) < D) : DX s f d := by
  have hR := hf.2.2.2.2.2.1
  have rc := RB_cells hf hB
  have k := RB_fl hf hB hd
  obtain ⟨b4, b5, b6, b7⟩ := hB.2.1.2 d (by rw [hf.2.2.1]; exact hd)
  exact ⟨by omega, by omega, k.1, k.2, b4, b7, b5⟩
theorem e0_flD {P : Int32 → Prop} {s : Bd} {f : Nat → Int64} {x : Int32} {d : Nat} (hX : DX s f d) (hx : x.toInt = (d : Int)) (h : wp_X0_flapsOn P s x) : ∃ F, P F ∧ F.toInt = d_f f d := by
  obtain ⟨x1, x2, x3, x4, x5, x6, x7⟩ := hX
  have e : x.toInt.toNat = d := by omega
  rcases e0_flapsOn h with ⟨_, h⟩ | ⟨g, _⟩
  · rw [e] at h
    exact ⟨_, h, x3⟩
  · omega
def ul (g : Nat → Int32) (N k : Nat) : Nat := if cg g (g k) (k + 1) (N - (k + 1)) = 0 then 1 else 0
/-! the reference -/
theorem e7_flD {P : Int32 → Prop} {s : Bd} {m : Md} {x : Int32} {d : Nat} (hX : DX s (m.2.2.1 0) d) (hx : x.toInt = (d : Int)) (h : wp_X7_flapsOf P m x) : ∃ F, P F ∧ F.toInt = d_f (m.2.2.1 0) d := by
  obtain ⟨x1, x2, x3, x4, x5, x6, x7⟩ := hX
  have h := e7_flapsOf (by omega) (by omega) h
  have e : x.toInt.toNat = d := by omega
  rw [e] at h
  refine ⟨_, h, ?_⟩
  rw [t32 (by unfold d_f at x4; omega)]
  rfl
def u7 (g : Nat → Int32) (N i : Nat) : Nat := if cg g (nI i) 0 N = 0 then 0 else 1
def m7 (g : Nat → Int32) (N i : Nat) : Nat := cg g (nI i) 0 N

/-! often, usual, and what else counts the log's entries. -/
def ts (h : Nat → Int32) : Nat → Nat → Int32
  | _, 0 => 0
  | a, n + 1 => h a + ts h (a + 1) n
theorem ts_0 {h : Nat → Int32} : ∀ n a : Nat, (∀ i, a ≤ i → i < a + n → h i = 0) → ts h a n = 0 := by
  intro n
  induction n with
  | zero => intro a _; rfl
  | succ n ih =>
    intro a g
    show h a + ts h (a + 1) n = 0
    rw [g a (by omega) (by omega), ih (a + 1) (fun i h1 h2 => g i (by omega) (by omega))] <;> first | rfl | decide
theorem ts_e {p q : Nat → Int32} : ∀ n a : Nat, (∀ i, a ≤ i → i < a + n → p i = q i) → ts p a n = ts q a n := by
  intro n
  induction n with
  | zero => intro a _; rfl
  | succ n ih =>
    intro a g
    show p a + ts p (a + 1) n = q a + ts q (a + 1) n
    rw [g a (by omega) (by omega), ih (a + 1) (fun i h1 h2 => g i (by omega) (by omega))]
theorem ts_ap {h : Nat → Int32} : ∀ n a m : Nat, ts h a (n + m) = ts h a n + ts h (a + n) m := by
  intro n
  induction n with
  | zero =>
    intro a m
    rw [Nat.zero_add]
    show ts h a m = 0 + ts h a m
    rw [Int32.zero_add]
  | succ n ih =>
    intro a m
    rw [show n + 1 + m = (n + m) + 1 by omega]
    show h a + ts h (a + 1) (n + m) = h a + ts h (a + 1) n + ts h (a + (n + 1)) m
    rw [ih (a + 1) m, Int32.add_assoc, show a + 1 + n = a + (n + 1) by omega]
theorem ts_add {p q : Nat → Int32} : ∀ n a : Nat, ts (fun i => p i + q i) a n = ts p a n + ts q a n := by
  intro n
  induction n with
  | zero => intro a; rfl
  | succ n ih =>
    intro a
    show (p a + q a) + ts (fun i => p i + q i) (a + 1) n = (p a + ts p (a + 1) n) + (q a + ts q (a + 1) n)
    rw [ih (a + 1)]
    exact add4 _ _ _ _
theorem ts_sw {h : Nat → Nat → Int32} {b m : Nat} : ∀ n a : Nat, ts (fun i => ts (h i) b m) a n = ts (fun j => ts (fun i => h i j) a n) b m := by
  intro n
  induction n with
  | zero =>
    intro a
    exact (ts_0 m b (fun _ _ _ => rfl)).symm
  | succ n ih =>
    intro a
    show ts (h a) b m + ts (fun i => ts (h i) b m) (a + 1) n = _
    rw [ih (a + 1), ← ts_add] <;> first | rfl | decide
theorem ts_z {h : Nat → Int32} {F N : Nat} (hF : F ≤ N) (hz : ∀ i, F ≤ i → i < N → h i = 0) : ts h 0 N = ts h 0 F := by
  have e : N = F + (N - F) := by omega
  rw [e, ts_ap, ts_0 (N - F) (0 + F) (fun i h1 h2 => hz i (by omega) (by omega)), Int32.add_zero]
/-- an entry of the log -/
def lg (f : Nat → Int64) (d a b : Nat) : Int32 := Int64.toInt32 (f (lx d a b))
theorem lg_0 {L : Nat} {e : Nat → Int32} {f : Nat → Int64} {d a b : Nat} (h : RLo L e f) (hd : d < 4) (ha : a < 40) (hb : b < 40) (hn : ¬ inL f d a b) : lg f d a b = 0 := by
  unfold lg
  rw [h.2.2 d a b hd ha hb hn] <;> first | rfl | decide
theorem e0_entAt {P : Int32 → Prop} {B : Int} {s : Bd} {f : Nat → Int64} {x1 x2 x3 x4 : Int32} {d a b : Nat} {R W D : Int} (hf : rw_ok R W D f) (hC : RC B s f) (hi : inL f d a b) (h1 : x1.toInt = (esf f d : Int)) (h2 : x2.toInt = d_f f d) (h3 : x3.toInt = (a : Int)) (h4 : x4.toInt = (b : Int)) (h : wp_X0_entryAt P s x1 x2 x3 x4) : P (lg f d a b) := by
  have e0 : (0 : Int32).toInt = 0 := rfl
  obtain ⟨⟨l1, l2⟩, l3, _⟩ := hC.2.2.2.1
  have ib := inL_b hf hi
  have plt := pc_lt hi
  have bF : ((a * Fn f d : Nat) : Int) = (a : Int) * d_f f d := by rw [Int.natCast_mul, ib.2.2.2.2.1]
  have bF2 : (a : Int) * d_f f d ≤ 1600 := Int.le_trans (Int.mul_le_mul (show (a : Int) ≤ 40 by omega) (show d_f f d ≤ 40 by omega) (by omega) (by decide)) (by decide)
  have bF0 : 0 ≤ (a : Int) * d_f f d := Int.mul_nonneg (by omega) (by omega)
  have m0 := tq_mul x3 x2
  rw [h3, h2] at m0
  have m1 := nw m0 (by omega)
  have m2 := nw (tq_add x1 (x3 * x2)) (by omega)
  have m3 := nw (tq_add (x1 + x3 * x2) x4) (by omega)
  have n0 : (Int32.ofNat s.2.2.2.1).toInt = (s.2.2.2.1 : Int) := tq_ofn (by omega)
  unfold wp_X0_entryAt at h
  have h := ((h.2 (fun g => by have := q_lt g; omega)).2 (fun g => by have := q_le g; omega)).2
  have ix : Int32.toNatClampNeg ((x1 + x3 * x2) + x4) = esf f d + (a * Fn f d + b) := by
    rw [tn_i]
    omega
  rw [ix, l3 d a b hi] at h
  exact h
theorem e7_lgd {P : Int32 → Prop} {m : Md} {x1 x2 x3 : Int32} {d a b : Nat} (hd : d < 4) (ha : a < 40) (hb : b < 40) (h1 : x1.toInt = (d : Int)) (h2 : x2.toInt = (a : Int)) (h3 : x3.toInt = (b : Int)) (h : wp_X7_logged P m x1 x2 x3) : P (lg (m.2.2.1 0) d a b) := by
  have e496 : (496 : Int32).toInt = 496 := rfl
  have e40 : (40 : Int32).toInt = 40 := rfl
  unfold wp_X7_logged at h
  have h := h.2
  have m1 := nw (tq_mulc e40 x1) (by omega)
  have m2 := nw (tq_add (40 * x1) x2) (by omega)
  have m3 := nw (tq_mulc e40 (40 * x1 + x2)) (by omega)
  have m4 := nw (tq_addc e496 (40 * (40 * x1 + x2))) (by omega)
  have m5 := nw (tq_add (496 + 40 * (40 * x1 + x2)) x3) (by omega)
  have ix : Int32.toNatClampNeg ((496 + 40 * (40 * x1 + x2)) + x3) = lx d a b := by
    unfold lx
    rw [tn_i]
    omega
  rw [ix] at h
  exact h
theorem e0_esD {P : Int32 → Prop} {B : Int} {s : Bd} {f : Nat → Int64} {x : Int32} {d : Nat} {R W D : Int} (hf : rw_ok R W D f) (hC : RC B s f) (hx : x.toInt = (d : Int)) (hd : (d : Int) < D) (h : wp_X0_entryStart P s x) : ∃ r, P r ∧ r.toInt = (esf f d : Int) := by
  obtain ⟨z1, z2, z3⟩ := RB_sz hf hC.1
  obtain ⟨r, h, q⟩ := e0_es (f := f) (D := D) z1.2 z2 z3 (by omega) h
  rw [show x.toInt.toNat = d by omega] at q
  exact ⟨r, h, q⟩
/-- entries from a flap (to: 0) or to it -/
def eo (f : Nat → Int64) (d k : Nat) (to : Int32) (o : Nat) : Int32 := if to = 0 then lg f d k o else lg f d o k
theorem inL_of {f : Nat → Int64} {R W D : Int} {d a b : Nat} (hf : rw_ok R W D f) (hd : (d : Int) < D) (ha : (a : Int) < d_f f d) (hb : (b : Int) < d_f f d) : inL f d a b := by
  refine ⟨by rw [hf.2.2.1]; exact hd, ?_, ?_⟩
  · unfold Fn
    omega
  · unfold Fn
    omega
theorem e0_eo_L {P : Int32 → Prop} {B : Int} {s : Bd} {f : Nat → Int64} {z1 z2 z3 z4 z5 : Int32} {d k : Nat} {R W D : Int} (hf : rw_ok R W D f) (hC : RC B s f) (hd : (d : Int) < D) (hk : (k : Int) < d_f f d) (h2 : z2.toInt = (k : Int)) (h4 : z4.toInt = (esf f d : Int)) (h5 : z5.toInt = d_f f d) (hF : d_f f d ≤ 40) : ∀ (n : Nat) (z6 z7 : Int32), 0 ≤ z7.toInt → z7.toInt ≤ d_f f d → wp_X0_entriesOf_L20 s P (fun _ _ _ _ _ z6 _ => P z6) n z1 z2 z3 z4 z5 z6 z7 → P (z6 + ts (eo f d k z3) z7.toInt.toNat ((d_f f d).toNat - z7.toInt.toNat)) := by
  have e1 : (1 : Int32).toInt = 1 := rfl
  intro n
  induction n with
  | zero =>
    intro z6 z7 _ _ h
    exact (show False from h).elim
  | succ n ih =>
    intro z6 z7 a1 a2 h
    unfold wp_X0_entriesOf_L20 at h
    by_cases c : z5 ≤ z7
    · have := q_le c
      rw [show (d_f f d).toNat - z7.toInt.toNat = 0 by omega]
      show P (z6 + 0)
      rw [Int32.add_zero]
      exact h.1 c
    · have := q_nle c
      have h := h.2 c
      have s7 := nw (tq_addr e1 z7) (by omega)
      have e7 : (z7 + 1).toInt.toNat = z7.toInt.toNat + 1 := by omega
      have en : (d_f f d).toNat - z7.toInt.toNat = ((d_f f d).toNat - (z7.toInt.toNat + 1)) + 1 := by omega
      rw [en]
      show P (z6 + (eo f d k z3 z7.toInt.toNat + ts (eo f d k z3) (z7.toInt.toNat + 1) ((d_f f d).toNat - (z7.toInt.toNat + 1))))
      rw [← Int32.add_assoc, ← e7]
      have k7 : z7.toInt = ((z7.toInt.toNat : Nat) : Int) := by omega
      by_cases g : z3 = 0
      · have h := e0_entAt hf hC (inL_of hf hd hk (b := z7.toInt.toNat) (by omega)) h4 h5 h2 k7 (h.1 g)
        have e : eo f d k z3 z7.toInt.toNat = lg f d k z7.toInt.toNat := by
          unfold eo
          rw [if_pos g]
        rw [e]
        exact ih _ (z7 + 1) (by omega) (by omega) h
      · have h := e0_entAt hf hC (inL_of hf hd (a := z7.toInt.toNat) (by omega) hk) h4 h5 k7 h2 (h.2 g)
        have e : eo f d k z3 z7.toInt.toNat = lg f d z7.toInt.toNat k := by
          unfold eo
          rw [if_neg g]
        rw [e]
        exact ih _ (z7 + 1) (by omega) (by omega) h
theorem e0_eo {P : Int32 → Prop} {B : Int} {s : Bd} {f : Nat → Int64} {x1 x2 x3 : Int32} {d k : Nat} {R W D : Int} (hf : rw_ok R W D f) (hC : RC B s f) (hX : DX s f d) (hd : (d : Int) < D) (hk : (k : Int) < d_f f d) (h1 : x1.toInt = (d : Int)) (h2 : x2.toInt = (k : Int)) (h : wp_X0_entriesOf P s x1 x2 x3) : P (ts (eo f d k x3) 0 (d_f f d).toNat) := by
  have x4 := hX.2.2.2.1
  have e0 : (0 : Int32).toInt = 0 := rfl
  unfold wp_X0_entriesOf at h
  obtain ⟨r1, h, q1⟩ := e0_esD hf hC h1 hd h
  obtain ⟨F, h, qF⟩ := e0_flD hX h1 h
  obtain ⟨n, h⟩ := h
  have h := e0_eo_L hf hC hd hk h2 q1 qF x4.2 n 0 0 (by decide) (by omega) h
  rw [Int32.zero_add] at h
  exact h

/-! log: how many entries, how many unlike ones. -/
theorem dbl_z {h : Nat → Nat → Int32} {F : Nat} (hF : F ≤ 40) (hz : ∀ a b : Nat, a < 40 → b < 40 → ¬ (a < F ∧ b < F) → h a b = 0) : ts (fun a => ts (h a) 0 40) 0 40 = ts (fun a => ts (h a) 0 F) 0 F := by
  rw [ts_z (h := fun a => ts (h a) 0 40) hF (fun a h1 h2 => ts_0 40 0 (fun b _ b2 => hz a b h2 (by omega) (by omega)))]
  exact ts_e F 0 (fun a _ a2 => ts_z hF (fun b b1 b2 => hz a b (by omega) b2 (by omega)))
theorem lg_F {L : Nat} {e : Nat → Int32} {f : Nat → Int64} {d : Nat} {R W D : Int} (hf : rw_ok R W D f) (h : RLo L e f) (hd : (d : Int) < D) : ∀ a b : Nat, a < 40 → b < 40 → ¬ (a < (d_f f d).toNat ∧ b < (d_f f d).toNat) → lg f d a b = 0 := fun a b ha hb hn => by
  have hR := hf.2.2.2.2.2.1
  exact lg_0 h (by omega) ha hb (fun q => hn q.2)
theorem e0_ls_L {P : Int32 → Prop} {B : Int} {s : Bd} {f : Nat → Int64} {z1 : Int32} {d : Nat} {R W D : Int} (hf : rw_ok R W D f) (hC : RC B s f) (hd : (d : Int) < D) (h1 : z1.toInt = (d : Int)) : ∀ (n : Nat) (z2 z3 : Int32), 0 ≤ z3.toInt → z3.toInt ≤ d_f f d → wp_X0_logSize_L4 s P (fun _ z2 _ => P z2) n z1 z2 z3 → P (z2 + ts (fun k => ts (eo f d k 1) 0 (d_f f d).toNat) z3.toInt.toNat ((d_f f d).toNat - z3.toInt.toNat)) := by
  have e1 : (1 : Int32).toInt = 1 := rfl
  have hX := DX_of hf hC.1 hd
  have x4 := hX.2.2.2.1
  intro n
  induction n with
  | zero =>
    intro z2 z3 _ _ h
    exact (show False from h).elim
  | succ n ih =>
    intro z2 z3 a1 a2 h
    unfold wp_X0_logSize_L4 at h
    obtain ⟨F, h, qF⟩ := e0_flD hX h1 h
    by_cases c : F ≤ z3
    · have := q_le c
      rw [show (d_f f d).toNat - z3.toInt.toNat = 0 by omega]
      show P (z2 + 0)
      rw [Int32.add_zero]
      exact h.1 c
    · have := q_nle c
      have s3 := nw (tq_addr e1 z3) (by omega)
      have e3 : (z3 + 1).toInt.toNat = z3.toInt.toNat + 1 := by omega
      have en : (d_f f d).toNat - z3.toInt.toNat = ((d_f f d).toNat - (z3.toInt.toNat + 1)) + 1 := by omega
      have h := e0_eo (d := d) (k := z3.toInt.toNat) hf hC hX hd (by omega) h1 (by omega) (h.2 c)
      rw [en]
      show P (z2 + (ts (eo f d z3.toInt.toNat 1) 0 (d_f f d).toNat + ts (fun k => ts (eo f d k 1) 0 (d_f f d).toNat) (z3.toInt.toNat + 1) ((d_f f d).toNat - (z3.toInt.toNat + 1))))
      rw [← Int32.add_assoc, ← e3]
      exact ih _ (z3 + 1) (by omega) (by omega) h
theorem e7_en_in {P : Int32 → Prop} {E : Int32 → Int32 → Int32 → Int32 → Int32 → Prop} {m : Md} {z1 z4 : Int32} {d a : Nat} (hd : d < 4) (ha : a < 40) (h1 : z1.toInt = (d : Int)) (h4 : z4.toInt = (a : Int)) : ∀ (n : Nat) (z3 z5 : Int32), 0 ≤ z5.toInt → z5.toInt ≤ 40 → wp_X7_entries_L15 m P E n z1 0 z3 z4 z5 → ∃ z, E z1 0 (z3 + ts (lg (m.2.2.1 0) d a) z5.toInt.toNat (40 - z5.toInt.toNat)) z4 z := by
  have e1 : (1 : Int32).toInt = 1 := rfl
  have e40 : (40 : Int32).toInt = 40 := rfl
  intro n
  induction n with
  | zero =>
    intro z3 z5 _ _ h
    exact (show False from h).elim
  | succ n ih =>
    intro z3 z5 a1 a2 h
    unfold wp_X7_entries_L15 at h
    by_cases c : 40 ≤ z5
    · have := q_le c
      rw [show 40 - z5.toInt.toNat = 0 by omega]
      show ∃ z, E z1 0 (z3 + 0) z4 z
      rw [Int32.add_zero]
      exact ⟨_, h.1 c⟩
    · have := q_nle c
      have s5 := nw (tq_addr e1 z5) (by omega)
      have e5 : (z5 + 1).toInt.toNat = z5.toInt.toNat + 1 := by omega
      have en : 40 - z5.toInt.toNat = (40 - (z5.toInt.toNat + 1)) + 1 := by omega
      have h := e7_lgd (b := z5.toInt.toNat) hd ha (by omega) h1 h4 (by omega) ((h.2 c).1 rfl)
      rw [en]
      show ∃ z, E z1 0 (z3 + (lg (m.2.2.1 0) d a z5.toInt.toNat + ts (lg (m.2.2.1 0) d a) (z5.toInt.toNat + 1) (40 - (z5.toInt.toNat + 1)))) z4 z
      rw [← Int32.add_assoc, ← e5]
      exact ih _ (z5 + 1) (by omega) (by omega) h
theorem e7_en_out {P : Int32 → Prop} {m : Md} {z1 : Int32} {d : Nat} (hd : d < 4) (h1 : z1.toInt = (d : Int)) : ∀ (n : Nat) (z3 z4 : Int32), 0 ≤ z4.toInt → z4.toInt ≤ 40 → wp_X7_entries_L5 m P (fun _ _ z3 _ => P z3) n z1 0 z3 z4 → P (z3 + ts (fun a => ts (lg (m.2.2.1 0) d a) 0 40) z4.toInt.toNat (40 - z4.toInt.toNat)) := by
  have e1 : (1 : Int32).toInt = 1 := rfl
  have e40 : (40 : Int32).toInt = 40 := rfl
  intro n
  induction n with
  | zero =>
    intro z3 z4 _ _ h
    exact (show False from h).elim
  | succ n ih =>
    intro z3 z4 a1 a2 h
    unfold wp_X7_entries_L5 at h
    by_cases c : 40 ≤ z4
    · have := q_le c
      rw [show 40 - z4.toInt.toNat = 0 by omega]
      show P (z3 + 0)
      rw [Int32.add_zero]
      exact h.1 c
    · have := q_nle c
      have s4 := nw (tq_addr e1 z4) (by omega)
      have e4 : (z4 + 1).toInt.toNat = z4.toInt.toNat + 1 := by omega
      have en : 40 - z4.toInt.toNat = (40 - (z4.toInt.toNat + 1)) + 1 := by omega
      obtain ⟨n15, h⟩ := h.2 c
      obtain ⟨z, h⟩ := e7_en_in (a := z4.toInt.toNat) hd (by omega) h1 (by omega) n15 z3 0 (by decide) (by decide) h
      rw [en]
      show P (z3 + (ts (lg (m.2.2.1 0) d z4.toInt.toNat) 0 40 + ts (fun a => ts (lg (m.2.2.1 0) d a) 0 40) (z4.toInt.toNat + 1) (40 - (z4.toInt.toNat + 1))))
      rw [← Int32.add_assoc, ← e4]
      exact ih _ (z4 + 1) (by omega) (by omega) h
/-- 1: the log has it -/
def ui (f : Nat → Int64) (d a b : Nat) : Int32 := if lg f d a b ≤ 0 then 0 else 1
theorem e0_ui_in {P : Int32 → Prop} {E : Int32 → Int32 → Int32 → Int32 → Int32 → Int32 → Prop} {B : Int} {s : Bd} {f : Nat → Int64} {z1 z2 z3 z5 : Int32} {d a : Nat} {R W D : Int} (hf : rw_ok R W D f) (hC : RC B s f) (hd : (d : Int) < D) (ha : (a : Int) < d_f f d) (h2 : z2.toInt = (esf f d : Int)) (h3 : z3.toInt = d_f f d) (h5 : z5.toInt = (a : Int)) (hF : d_f f d ≤ 40) : ∀ (n : Nat) (z4 z6 : Int32), 0 ≤ z6.toInt → z6.toInt ≤ d_f f d → wp_X0_unlikeEntries_L27 s P E n z1 z2 z3 z4 z5 z6 → ∃ z, E z1 z2 z3 (z4 + ts (ui f d a) z6.toInt.toNat ((d_f f d).toNat - z6.toInt.toNat)) z5 z := by
  have e1 : (1 : Int32).toInt = 1 := rfl
  intro n
  induction n with
  | zero =>
    intro z4 z6 _ _ h
    exact (show False from h).elim
  | succ n ih =>
    intro z4 z6 a1 a2 h
    unfold wp_X0_unlikeEntries_L27 at h
    by_cases c : z3 ≤ z6
    · have := q_le c
      rw [show (d_f f d).toNat - z6.toInt.toNat = 0 by omega]
      show ∃ z, E z1 z2 z3 (z4 + 0) z5 z
      rw [Int32.add_zero]
      exact ⟨_, h.1 c⟩
    · have := q_nle c
      have s6 := nw (tq_addr e1 z6) (by omega)
      have e6 : (z6 + 1).toInt.toNat = z6.toInt.toNat + 1 := by omega
      have en : (d_f f d).toNat - z6.toInt.toNat = ((d_f f d).toNat - (z6.toInt.toNat + 1)) + 1 := by omega
      have h := e0_entAt (b := z6.toInt.toNat) hf hC (inL_of hf hd ha (by omega)) h2 h3 h5 (by omega) (h.2 c)
      rw [en]
      show ∃ z, E z1 z2 z3 (z4 + ((if lg f d a z6.toInt.toNat ≤ 0 then 0 else 1) + ts (ui f d a) (z6.toInt.toNat + 1) ((d_f f d).toNat - (z6.toInt.toNat + 1)))) z5 z
      rw [← Int32.add_assoc, ← e6]
      by_cases g : lg f d a z6.toInt.toNat ≤ 0
      · rw [if_pos g, Int32.add_zero]
        exact ih _ (z6 + 1) (by omega) (by omega) (h.1 g)
      · rw [if_neg g]
        exact ih _ (z6 + 1) (by omega) (by omega) (h.2 g)
theorem e0_ui_out {P : Int32 → Prop} {B : Int} {s : Bd} {f : Nat → Int64} {z1 z2 z3 : Int32} {d : Nat} {R W D : Int} (hf : rw_ok R W D f) (hC : RC B s f) (hd : (d : Int) < D) (h2 : z2.toInt = (esf f d : Int)) (h3 : z3.toInt = d_f f d) (hF : 0 ≤ d_f f d ∧ d_f f d ≤ 40) : ∀ (n : Nat) (z4 z5 : Int32), 0 ≤ z5.toInt → z5.toInt ≤ d_f f d → wp_X0_unlikeEntries_L18 s P (fun _ _ _ z4 _ => P z4) n z1 z2 z3 z4 z5 → P (z4 + ts (fun a => ts (ui f d a) 0 (d_f f d).toNat) z5.toInt.toNat ((d_f f d).toNat - z5.toInt.toNat)) := by
  have e1 : (1 : Int32).toInt = 1 := rfl
  have e0 : (0 : Int32).toInt = 0 := rfl
  intro n
  induction n with
  | zero =>
    intro z4 z5 _ _ h
    exact (show False from h).elim
  | succ n ih =>
    intro z4 z5 a1 a2 h
    unfold wp_X0_unlikeEntries_L18 at h
    by_cases c : z3 ≤ z5
    · have := q_le c
      rw [show (d_f f d).toNat - z5.toInt.toNat = 0 by omega]
      show P (z4 + 0)
      rw [Int32.add_zero]
      exact h.1 c
    · have := q_nle c
      have s5 := nw (tq_addr e1 z5) (by omega)
      have e5 : (z5 + 1).toInt.toNat = z5.toInt.toNat + 1 := by omega
      have en : (d_f f d).toNat - z5.toInt.toNat = ((d_f f d).toNat - (z5.toInt.toNat + 1)) + 1 := by omega
      obtain ⟨n27, h⟩ := h.2 c
      obtain ⟨z, h⟩ := e0_ui_in (a := z5.toInt.toNat) hf hC hd (by omega) h2 h3 (by omega) hF.2 n27 z4 0 (by decide) (by omega) h
      rw [en]
      show P (z4 + (ts (ui f d z5.toInt.toNat) 0 (d_f f d).toNat + ts (fun a => ts (ui f d a) 0 (d_f f d).toNat) (z5.toInt.toNat + 1) ((d_f f d).toNat - (z5.toInt.toNat + 1))))
      rw [← Int32.add_assoc, ← e5]
      exact ih _ (z5 + 1) (by omega) (by omega) h
theorem e7_ui_in {P : Int32 → Prop} {E : Int32 → Int32 → Int32 → Int32 → Int32 → Prop} {m : Md} {z1 z4 : Int32} {d a : Nat} (hd : d < 4) (ha : a < 40) (h1 : z1.toInt = (d : Int)) (h4 : z4.toInt = (a : Int)) : ∀ (n : Nat) (z3 z5 : Int32), 0 ≤ z5.toInt → z5.toInt ≤ 40 → wp_X7_entries_L15 m P E n z1 1 z3 z4 z5 → ∃ z, E z1 1 (z3 + ts (ui (m.2.2.1 0) d a) z5.toInt.toNat (40 - z5.toInt.toNat)) z4 z := by
  have e1 : (1 : Int32).toInt = 1 := rfl
  have e40 : (40 : Int32).toInt = 40 := rfl
  intro n
  induction n with
  | zero =>
    intro z3 z5 _ _ h
    exact (show False from h).elim
  | succ n ih =>
    intro z3 z5 a1 a2 h
    unfold wp_X7_entries_L15 at h
    by_cases c : 40 ≤ z5
    · have := q_le c
      rw [show 40 - z5.toInt.toNat = 0 by omega]
      show ∃ z, E z1 1 (z3 + 0) z4 z
      rw [Int32.add_zero]
      exact ⟨_, h.1 c⟩
    · have := q_nle c
      have s5 := nw (tq_addr e1 z5) (by omega)
      have e5 : (z5 + 1).toInt.toNat = z5.toInt.toNat + 1 := by omega
      have en : 40 - z5.toInt.toNat = (40 - (z5.toInt.toNat + 1)) + 1 := by omega
      have h := e7_lgd (b := z5.toInt.toNat) hd ha (by omega) h1 h4 (by omega) ((h.2 c).2 (by decide))
      rw [en]
      show ∃ z, E z1 1 (z3 + ((if lg (m.2.2.1 0) d a z5.toInt.toNat ≤ 0 then 0 else 1) + ts (ui (m.2.2.1 0) d a) (z5.toInt.toNat + 1) (40 - (z5.toInt.toNat + 1)))) z4 z
      rw [← Int32.add_assoc, ← e5]
      by_cases g : lg (m.2.2.1 0) d a z5.toInt.toNat ≤ 0
      · rw [if_pos g]
        exact ih _ (z5 + 1) (by omega) (by omega) (h.1 g)
      · rw [if_neg g]
        exact ih _ (z5 + 1) (by omega) (by omega) (h.2 g)
theorem e7_ui_out {P : Int32 → Prop} {m : Md} {z1 : Int32} {d : Nat} (hd : d < 4) (h1 : z1.toInt = (d : Int)) : ∀ (n : Nat) (z3 z4 : Int32), 0 ≤ z4.toInt → z4.toInt ≤ 40 → wp_X7_entries_L5 m P (fun _ _ z3 _ => P z3) n z1 1 z3 z4 → P (z3 + ts (fun a => ts (ui (m.2.2.1 0) d a) 0 40) z4.toInt.toNat (40 - z4.toInt.toNat)) := by
  have e1 : (1 : Int32).toInt = 1 := rfl
  have e40 : (40 : Int32).toInt = 40 := rfl
  intro n
  induction n with
  | zero =>
    intro z3 z4 _ _ h
    exact (show False from h).elim
  | succ n ih =>
    intro z3 z4 a1 a2 h
    unfold wp_X7_entries_L5 at h
    by_cases c : 40 ≤ z4
    · have := q_le c
      rw [show 40 - z4.toInt.toNat = 0 by omega]
      show P (z3 + 0)
      rw [Int32.add_zero]
      exact h.1 c
    · have := q_nle c
      have s4 := nw (tq_addr e1 z4) (by omega)
      have e4 : (z4 + 1).toInt.toNat = z4.toInt.toNat + 1 := by omega
      have en : 40 - z4.toInt.toNat = (40 - (z4.toInt.toNat + 1)) + 1 := by omega
      obtain ⟨n15, h⟩ := h.2 c
      obtain ⟨z, h⟩ := e7_ui_in (a := z4.toInt.toNat) hd (by omega) h1 (by omega) n15 z3 0 (by decide) (by decide) h
      rw [en]
      show P (z3 + (ts (ui (m.2.2.1 0) d z4.toInt.toNat) 0 40 + ts (fun a => ts (ui (m.2.2.1 0) d a) 0 40) (z4.toInt.toNat + 1) (40 - (z4.toInt.toNat + 1))))
      rw [← Int32.add_assoc, ← e4]
      exact ih _ (z4 + 1) (by omega) (by omega) h
/-! the journey, in numbers without bounds -/
def si (h : Nat → Int) : Nat → Nat → Int
  | _, 0 => 0
  | a, n + 1 => h a + si h (a + 1) n
def ei (f : Nat → Int64) (d a b : Nat) : Int := (f (lx d a b)).toInt
theorem ei_nn {B : Int} {f : Nat → Int64} {d a b : Nat} (h : LB B f) (hd : d < 4) (ha : a < 40) (hb : b < 40) : 0 ≤ ei f d a b ∧ ei f d a b ≤ B := by
  have e : lx d a b = 496 + (40 * (40 * d + a) + b) := rfl
  unfold ei
  rw [e]
  have i1 := h.1 (40 * (40 * d + a) + b) (by omega)
  have i2 := (lsm_ge 6400 h.1).2 (40 * (40 * d + a) + b) (by omega)
  have := h.2
  omega
def i32 (x : Int) : Int32 := Int32.ofInt x
theorem i32_t {r : Int32} {x : Int} (h : r.toInt = x) : r = i32 x := by
  rw [← h]
  exact (Int32.ofInt_toInt r).symm
theorem i32_a (x y : Int) : i32 (x + y) = i32 x + i32 y := Int32.ofInt_add x y
theorem i32_m (x y : Int) : i32 (x * y) = i32 x * i32 y := Int32.ofInt_mul x y
theorem lg_i {B : Int} {f : Nat → Int64} {d a b : Nat} (hBB : B ≤ 50000000) (h : LB B f) (hd : d < 4) (ha : a < 40) (hb : b < 40) : lg f d a b = i32 (ei f d a b) ∧ (lg f d a b).toInt = ei f d a b := by
  have q := ei_nn h hd ha hb
  have e : (lg f d a b).toInt = ei f d a b := by
    unfold lg
    unfold ei at q ⊢
    rw [t32 (by omega)]
  exact ⟨i32_t e, e⟩
/-- an entry's way, by where its flaps stand -/
def jt (f : Nat → Int64) (d : Nat) (F : Int) (mv : Nat → Nat) (a b : Nat) : Int := ei f d a b * onI (mv a : Int) (mv b : Int) F
def jr (f : Nat → Int64) (d : Nat) (mv : Nat → Nat) : Int := si (fun a => si (jt f d (d_f f d) mv a) 0 (d_f f d).toNat) 0 (d_f f d).toNat
def id1 (x : Nat) : Nat := x
theorem e6_on {P : Int32 → Prop} {x y z : Int32} {F : Int} (hF : 1 ≤ F ∧ F ≤ 40) (hz : z.toInt = F) (hx : 0 ≤ x.toInt ∧ x.toInt < F) (hy : 0 ≤ y.toInt ∧ y.toInt < F) (h : wp_X6_onFrom P x y z) : P (i32 (onI x.toInt y.toInt F)) := by
  have o := onI_d x.toInt y.toInt F
  have m1 := nw (tq_sub y x) (by omega)
  unfold wp_X6_onFrom at h
  by_cases c : y < x
  · have := q_lt c
    have m2 := nw (tq_add (y - x) z) (by omega)
    have e : (y - x) + z = i32 (onI x.toInt y.toInt F) := i32_t (by omega)
    rw [← e]
    exact h.1 c
  · have := q_nlt c
    have e : y - x = i32 (onI x.toInt y.toInt F) := i32_t (by omega)
    rw [← e]
    exact h.2 c
theorem e7_onI {P : Int32 → Prop} {x y z : Int32} {F : Int} (hF : 1 ≤ F ∧ F ≤ 40) (hz : z.toInt = F) (hx : 0 ≤ x.toInt ∧ x.toInt < F) (hy : 0 ≤ y.toInt ∧ y.toInt < F) (h : wp_X7_on P x y z) : P (i32 (onI x.toInt y.toInt F)) := by
  have o := onI_d x.toInt y.toInt F
  obtain ⟨r, h, q⟩ := e7_on (by omega) (by omega) (by omega) h
  have e : r = i32 (onI x.toInt y.toInt F) := i32_t (by omega)
  rw [← e]
  exact h
theorem e0_j_in {P : Int32 → Prop} {E : Int32 → Int32 → Int32 → Int32 → Int32 → Int32 → Prop} {B : Int} {s : Bd} {f : Nat → Int64} {z1 z2 z3 z5 : Int32} {d a : Nat} {R W D : Int} (hBB : B ≤ 50000000) (hf : rw_ok R W D f) (hC : RC B s f) (hd : (d : Int) < D) (hd4 : d < 4) (ha : (a : Int) < d_f f d) (h2 : z2.toInt = (esf f d : Int)) (h3 : z3.toInt = d_f f d) (h5 : z5.toInt = (a : Int)) (hF : d_f f d ≤ 40) : ∀ (n : Nat) (z4 z6 : Int32), 0 ≤ z6.toInt → z6.toInt ≤ d_f f d → wp_X0_journey_L27 s P E n z1 z2 z3 z4 z5 z6 → ∃ z, E z1 z2 z3 (z4 + i32 (si (jt f d (d_f f d) id1 a) z6.toInt.toNat ((d_f f d).toNat - z6.toInt.toNat))) z5 z := by
  have e1 : (1 : Int32).toInt = 1 := rfl
  intro n
  induction n with
  | zero =>
    intro z4 z6 _ _ h
    exact (show False from h).elim
  | succ n ih =>
    intro z4 z6 a1 a2 h
    unfold wp_X0_journey_L27 at h
    by_cases c : z3 ≤ z6
    · have := q_le c
      rw [show (d_f f d).toNat - z6.toInt.toNat = 0 by omega]
      show ∃ z, E z1 z2 z3 (z4 + 0) z5 z
      rw [Int32.add_zero]
      exact ⟨_, h.1 c⟩
    · have := q_nle c
      have s6 := nw (tq_addr e1 z6) (by omega)
      have e6 : (z6 + 1).toInt.toNat = z6.toInt.toNat + 1 := by omega
      have k6 : z6.toInt = ((z6.toInt.toNat : Nat) : Int) := by omega
      have en : (d_f f d).toNat - z6.toInt.toNat = ((d_f f d).toNat - (z6.toInt.toNat + 1)) + 1 := by omega
      have h := e0_entAt (b := z6.toInt.toNat) hf hC (inL_of hf hd ha (by omega)) h2 h3 h5 k6 (h.2 c)
      have h := e6_on (F := d_f f d) (by omega) h3 (by omega) (by omega) h
      rw [(lg_i hBB hC.2.2.2.2 hd4 (by omega) (show z6.toInt.toNat < 40 by omega)).1, ← i32_m] at h
      rw [en]
      show ∃ z, E z1 z2 z3 (z4 + i32 (ei f d a z6.toInt.toNat * onI (a : Int) (z6.toInt.toNat : Int) (d_f f d) + si (jt f d (d_f f d) id1 a) (z6.toInt.toNat + 1) ((d_f f d).toNat - (z6.toInt.toNat + 1)))) z5 z
      rw [i32_a, ← Int32.add_assoc, ← e6, ← k6, ← h5]
      exact ih _ (z6 + 1) (by omega) (by omega) h
theorem e0_j_out {P : Int32 → Prop} {B : Int} {s : Bd} {f : Nat → Int64} {z1 z2 z3 : Int32} {d : Nat} {R W D : Int} (hBB : B ≤ 50000000) (hf : rw_ok R W D f) (hC : RC B s f) (hd : (d : Int) < D) (hd4 : d < 4) (h2 : z2.toInt = (esf f d : Int)) (h3 : z3.toInt = d_f f d) (hF : 0 ≤ d_f f d ∧ d_f f d ≤ 40) : ∀ (n : Nat) (z4 z5 : Int32), 0 ≤ z5.toInt → z5.toInt ≤ d_f f d → wp_X0_journey_L18 s P (fun _ _ _ z4 _ => P z4) n z1 z2 z3 z4 z5 → P (z4 + i32 (si (fun a => si (jt f d (d_f f d) id1 a) 0 (d_f f d).toNat) z5.toInt.toNat ((d_f f d).toNat - z5.toInt.toNat))) := by
  have e1 : (1 : Int32).toInt = 1 := rfl
  have e0 : (0 : Int32).toInt = 0 := rfl
  intro n
  induction n with
  | zero =>
    intro z4 z5 _ _ h
    exact (show False from h).elim
  | succ n ih =>
    intro z4 z5 a1 a2 h
    unfold wp_X0_journey_L18 at h
    by_cases c : z3 ≤ z5
    · have := q_le c
      rw [show (d_f f d).toNat - z5.toInt.toNat = 0 by omega]
      show P (z4 + 0)
      rw [Int32.add_zero]
      exact h.1 c
    · have := q_nle c
      have s5 := nw (tq_addr e1 z5) (by omega)
      have e5 : (z5 + 1).toInt.toNat = z5.toInt.toNat + 1 := by omega
      have en : (d_f f d).toNat - z5.toInt.toNat = ((d_f f d).toNat - (z5.toInt.toNat + 1)) + 1 := by omega
      obtain ⟨n27, h⟩ := h.2 c
      obtain ⟨z, h⟩ := e0_j_in (a := z5.toInt.toNat) hBB hf hC hd hd4 (by omega) h2 h3 (by omega) hF.2 n27 z4 0 (by decide) (by omega) h
      rw [en]
      show P (z4 + i32 (si (jt f d (d_f f d) id1 z5.toInt.toNat) 0 (d_f f d).toNat + si (fun a => si (jt f d (d_f f d) id1 a) 0 (d_f f d).toNat) (z5.toInt.toNat + 1) ((d_f f d).toNat - (z5.toInt.toNat + 1))))
      rw [i32_a, ← Int32.add_assoc, ← e5]
      exact ih _ (z5 + 1) (by omega) (by omega) h
theorem e0_journey {P : Int32 → Prop} {B : Int} {s : Bd} {f : Nat → Int64} {x : Int32} {d : Nat} {R W D : Int} (hBB : B ≤ 50000000) (hf : rw_ok R W D f) (hC : RC B s f) (hd : (d : Int) < D) (hx : x.toInt = (d : Int)) (h : wp_X0_journey P s x) : P (i32 (jr f d id1)) := by
  have e0 : (0 : Int32).toInt = 0 := rfl
  have hX := DX_of hf hC.1 hd
  have x4 := hX.2.2.2.1
  unfold wp_X0_journey at h
  obtain ⟨r1, h, q1⟩ := e0_esD hf hC hx hd h
  obtain ⟨F, h, qF⟩ := e0_flD hX hx h
  obtain ⟨n, h⟩ := h
  have h := e0_j_out hBB hf hC hd hX.1 q1 qF (by omega) n 0 0 (by decide) (by omega) h
  rw [Int32.zero_add] at h
  exact h
/-- where a flap is if two have changed places -/
def mvd (o t x : Nat) : Nat := if x = o then t else if x = t then o else x
theorem e7_moved {P : Int32 → Prop} {x y z : Int32} {a o t : Nat} (hx : x.toInt = (a : Int)) (hy : y.toInt = (o : Int)) (hz : z.toInt = (t : Int)) (h : wp_X7_moved P x y z) : ∃ r, P r ∧ r.toInt = (mvd o t a : Int) := by
  unfold wp_X7_moved at h
  unfold mvd
  by_cases c : x = y
  · have e : a = o := by
      have := congrArg Int32.toInt c
      omega
    rw [if_pos e]
    exact ⟨z, h.2 c, hz⟩
  · have e : ¬ a = o := fun g => c (Int32.toInt_inj.mp (by rw [hx, hy, g]))
    rw [if_neg e]
    have h := h.1 c
    by_cases c2 : x = z
    · have e2 : a = t := by
        have := congrArg Int32.toInt c2
        omega
      rw [if_pos e2]
      exact ⟨y, h.2 c2, hy⟩
    · have e2 : ¬ a = t := fun g => c2 (Int32.toInt_inj.mp (by rw [hx, hz, g]))
      rw [if_neg e2]
      exact ⟨x, h.1 c2, hx⟩
theorem mvd_b {F o t x : Nat} (ho : o < F) (ht : t < F) (hx : x < F) : mvd o t x < F := by
  unfold mvd
  split
  · exact ht
  · split
    · exact ho
    · exact hx
theorem e7_j_in {P : Int32 → Prop} {E : Int32 → Int32 → Int32 → Int32 → Int32 → Int32 → Int32 → Prop} {B F : Int} {m : Md} {z1 z2 z3 z4 z6 : Int32} {d a o t : Nat} (hBB : B ≤ 50000000) (hL : LB B (m.2.2.1 0)) (hd : d < 4) (hF : 1 ≤ F ∧ F ≤ 40) (h4 : z4.toInt = F) (ha : (a : Int) < F) (ho : (o : Int) < F) (ht : (t : Int) < F) (h1 : z1.toInt = (d : Int)) (h2 : z2.toInt = (o : Int)) (h3 : z3.toInt = (t : Int)) (h6 : z6.toInt = (a : Int)) : ∀ (n : Nat) (z5 z7 : Int32), 0 ≤ z7.toInt → z7.toInt ≤ F → wp_X7_journey_L23 m P E n z1 z2 z3 z4 z5 z6 z7 → ∃ z, E z1 z2 z3 z4 (z5 + i32 (si (jt (m.2.2.1 0) d F (mvd o t) a) z7.toInt.toNat (F.toNat - z7.toInt.toNat))) z6 z := by
  have e1 : (1 : Int32).toInt = 1 := rfl
  have e0 : (0 : Int32).toInt = 0 := rfl
  have mb_ : ∀ x : Nat, (x : Int) < F → (mvd o t x : Int) < F := fun x hx => by
    have := mvd_b (F := F.toNat) (o := o) (t := t) (x := x) (by omega) (by omega) (by omega)
    omega
  intro n
  induction n with
  | zero =>
    intro z5 z7 _ _ h
    exact (show False from h).elim
  | succ n ih =>
    intro z5 z7 a1 a2 h
    unfold wp_X7_journey_L23 at h
    by_cases c : z4 ≤ z7
    · have := q_le c
      rw [show F.toNat - z7.toInt.toNat = 0 by omega]
      show ∃ z, E z1 z2 z3 z4 (z5 + 0) z6 z
      rw [Int32.add_zero]
      exact ⟨_, h.1 c⟩
    · have := q_nle c
      have s7 := nw (tq_addr e1 z7) (by omega)
      have e7 : (z7 + 1).toInt.toNat = z7.toInt.toNat + 1 := by omega
      have k7 : z7.toInt = ((z7.toInt.toNat : Nat) : Int) := by omega
      have en : F.toNat - z7.toInt.toNat = (F.toNat - (z7.toInt.toNat + 1)) + 1 := by omega
      have h := e7_lgd (b := z7.toInt.toNat) hd (show a < 40 by omega) (by omega) h1 h6 k7 (h.2 c)
      obtain ⟨l1, l2⟩ := lg_i (a := a) (b := z7.toInt.toNat) hBB hL hd (by omega) (by omega)
      have en0 := (ei_nn (a := a) (b := z7.toInt.toNat) hL hd (by omega) (by omega)).1
      rw [en]
      show ∃ z, E z1 z2 z3 z4 (z5 + i32 (ei (m.2.2.1 0) d a z7.toInt.toNat * onI (mvd o t a : Int) (mvd o t z7.toInt.toNat : Int) F + si (jt (m.2.2.1 0) d F (mvd o t) a) (z7.toInt.toNat + 1) (F.toNat - (z7.toInt.toNat + 1)))) z6 z
      rw [i32_a, ← Int32.add_assoc, ← e7]
      by_cases g : lg (m.2.2.1 0) d a z7.toInt.toNat ≤ 0
      · have := q_le g
        have ez : ei (m.2.2.1 0) d a z7.toInt.toNat = 0 := by omega
        rw [ez, Int.zero_mul, show i32 0 = 0 from rfl, Int32.add_zero]
        exact ih _ (z7 + 1) (by omega) (by omega) (h.1 g)
      · have h := e7_lgd (b := z7.toInt.toNat) hd (show a < 40 by omega) (by omega) h1 h6 k7 (h.2 g)
        obtain ⟨r10, h, q10⟩ := e7_moved h6 h2 h3 h
        obtain ⟨r12, h, q12⟩ := e7_moved k7 h2 h3 h
        have b1 := mb_ a ha
        have b2 := mb_ z7.toInt.toNat (by omega)
        have h := e7_onI hF h4 (by omega) (by omega) h
        rw [q10, q12, l1, ← i32_m] at h
        exact ih _ (z7 + 1) (by omega) (by omega) h
theorem e7_j_out {P : Int32 → Prop} {B F : Int} {m : Md} {z1 z2 z3 z4 : Int32} {d o t : Nat} (hBB : B ≤ 50000000) (hL : LB B (m.2.2.1 0)) (hd : d < 4) (hF : 1 ≤ F ∧ F ≤ 40) (h4 : z4.toInt = F) (ho : (o : Int) < F) (ht : (t : Int) < F) (h1 : z1.toInt = (d : Int)) (h2 : z2.toInt = (o : Int)) (h3 : z3.toInt = (t : Int)) : ∀ (n : Nat) (z5 z6 : Int32), 0 ≤ z6.toInt → z6.toInt ≤ F → wp_X7_journey_L13 m P (fun _ _ _ _ z5 _ => P z5) n z1 z2 z3 z4 z5 z6 → P (z5 + i32 (si (fun a => si (jt (m.2.2.1 0) d F (mvd o t) a) 0 F.toNat) z6.toInt.toNat (F.toNat - z6.toInt.toNat))) := by
  have e1 : (1 : Int32).toInt = 1 := rfl
  have e0 : (0 : Int32).toInt = 0 := rfl
  intro n
  induction n with
  | zero =>
    intro z5 z6 _ _ h
    exact (show False from h).elim
  | succ n ih =>
    intro z5 z6 a1 a2 h
    unfold wp_X7_journey_L13 at h
    by_cases c : z4 ≤ z6
    · have := q_le c
      rw [show F.toNat - z6.toInt.toNat = 0 by omega]
      show P (z5 + 0)
      rw [Int32.add_zero]
      exact h.1 c
    · have := q_nle c
      have s6 := nw (tq_addr e1 z6) (by omega)
      have e6 : (z6 + 1).toInt.toNat = z6.toInt.toNat + 1 := by omega
      have en : F.toNat - z6.toInt.toNat = (F.toNat - (z6.toInt.toNat + 1)) + 1 := by omega
      obtain ⟨n23, h⟩ := h.2 c
      obtain ⟨z, h⟩ := e7_j_in (a := z6.toInt.toNat) hBB hL hd hF h4 (by omega) ho ht h1 h2 h3 (by omega) n23 z5 0 (by decide) (by omega) h
      rw [en]
      show P (z5 + i32 (si (jt (m.2.2.1 0) d F (mvd o t) z6.toInt.toNat) 0 F.toNat + si (fun a => si (jt (m.2.2.1 0) d F (mvd o t) a) 0 F.toNat) (z6.toInt.toNat + 1) (F.toNat - (z6.toInt.toNat + 1))))
      rw [i32_a, ← Int32.add_assoc, ← e6]
      exact ih _ (z6 + 1) (by omega) (by omega) h
theorem e7_journey {P : Int32 → Prop} {B : Int} {s : Bd} {m : Md} {x y z : Int32} {d o t : Nat} {R W D : Int} (hBB : B ≤ 50000000) (hf : rw_ok R W D (m.2.2.1 0)) (hC : RC B s (m.2.2.1 0)) (hd : (d : Int) < D) (hx : x.toInt = (d : Int)) (hy : y.toInt = (o : Int)) (hz : z.toInt = (t : Int)) (ho : (o : Int) < d_f (m.2.2.1 0) d) (ht : (t : Int) < d_f (m.2.2.1 0) d) (h : wp_X7_journey P m x y z) : P (i32 (jr (m.2.2.1 0) d (mvd o t))) := by
  have e0 : (0 : Int32).toInt = 0 := rfl
  have hX := DX_of hf hC.1 hd
  have x4 := hX.2.2.2.1
  unfold wp_X7_journey at h
  obtain ⟨F, h, qF⟩ := e7_flD hX hx h
  obtain ⟨n, h⟩ := h
  have h := e7_j_out hBB hC.2.2.2.2 hX.1 (by omega) qF ho ht hx hy hz n 0 0 (by decide) (by omega) h
  rw [Int32.zero_add] at h
  exact h
theorem mvd_0 : mvd 0 0 = id1 := by
  funext x
  unfold mvd id1
  by_cases c : x = 0
  · rw [if_pos c, c]
  · rw [if_neg c, if_neg c]
theorem sq_log {P6 P7 : Int32 → Prop} {s2 : Bd} {m : Md} {x1 x2 : Int32} {B N R W D : Int} (hBB : B ≤ 50000000) (hC : RC B s2 (m.2.2.1 0)) (hM : mb N R W D m) (hs : R ≤ 0 ∨ 0 < D) (h6 : wp_X6_log P6 s2 x1 x2) (h7 : wp_X7_log P7 m x1 x2) : ∃ r, P6 r ∧ P7 r := by
  have e0 : (0 : Int32).toInt = 0 := rfl
  have e1 : (1 : Int32).toInt = 1 := rfl
  have e2 : (2 : Int32).toInt = 2 := rfl
  have hB := hC.1
  have hf := hM.2.2.2.2.1
  have hR := hf.2.2.2.2.2.1
  have rc := RB_cells hf hB
  unfold wp_X6_log at h6
  unfold wp_X7_log at h7
  rcases e7_isDrum hf h7 with ⟨h7, g1, g2⟩ | ⟨h7, g⟩
  · rcases e0_hasDrum h6 with ⟨h6, _, _⟩ | ⟨_, g⟩
    · have h6 := h6.1 (by decide)
      obtain ⟨d, hx⟩ : ∃ d : Nat, x1.toInt = (d : Int) := ⟨x1.toInt.toNat, by omega⟩
      have hd : (d : Int) < D := by omega
      have hX := DX_of hf hB hd
      have x4 := hX.2.2.2.1
      have hz := lg_F hf hC.2.2.2.1 hd
      rcases e7_inC (i := 0) (j := 2) rfl rfl (h7.2 (by decide)) with ⟨h7, j1, j2⟩ | ⟨h7, j⟩
      · have h7 := h7.1 (by decide)
        by_cases c0 : x2 = 0
        · have h6 := e0_journey hBB hf hC hd hx (h6.1 c0)
          have h7 := e7_journey (o := 0) (t := 0) hBB hf hC hd hx rfl rfl (by omega) (by omega) (h7.2 c0)
          rw [mvd_0] at h7
          exact ⟨_, h6, h7⟩
        have h6 := h6.2 c0
        have h7 := h7.1 c0
        by_cases c1 : x2 = 1
        · have h6 := h6.1 c1
          have h7 := h7.1 (fun g => by rw [c1] at g; exact absurd g (by decide))
          unfold wp_X0_logSize at h6
          unfold wp_X7_entries at h7
          obtain ⟨n6, h6⟩ := h6
          obtain ⟨n7, h7⟩ := h7
          have h6 := e0_ls_L hf hC hd hx n6 0 0 (by decide) (by omega) h6
          have h7 := e7_en_out hX.1 hx n7 0 0 (by decide) (by decide) h7
          rw [Int32.zero_add] at h6 h7
          have h7 : P7 (ts (fun a => ts (lg (m.2.2.1 0) d a) 0 40) 0 40) := h7
          have h6 : P6 (ts (fun k => ts (fun o => lg (m.2.2.1 0) d o k) 0 (d_f (m.2.2.1 0) d).toNat) 0 (d_f (m.2.2.1 0) d).toNat) := h6
          rw [dbl_z (by omega) hz, ts_sw] at h7
          exact ⟨_, h6, h7⟩
        have h6 := h6.2 c1
        have c2 : x2 = 2 := by
          refine Int32.toInt_inj.mp ?_
          have n0 : ¬ x2.toInt = 0 := fun q => c0 (Int32.toInt_inj.mp q)
          have n1 : ¬ x2.toInt = 1 := fun q => c1 (Int32.toInt_inj.mp q)
          omega
        have h6 := h6.1 c2
        have h7 := h7.2 c2
        unfold wp_X0_unlikeEntries at h6
        unfold wp_X7_entries at h7
        obtain ⟨r1, h6, q1⟩ := e0_esD hf hC hx hd h6
        obtain ⟨F, h6, qF⟩ := e0_flD hX hx h6
        obtain ⟨n6, h6⟩ := h6
        obtain ⟨n7, h7⟩ := h7
        have h6 := e0_ui_out hf hC hd q1 qF (by omega) n6 0 0 (by decide) (by omega) h6
        have h7 := e7_ui_out hX.1 hx n7 0 0 (by decide) (by decide) h7
        rw [Int32.zero_add] at h6 h7
        have h7 : P7 (ts (fun a => ts (ui (m.2.2.1 0) d a) 0 40) 0 40) := h7
        rw [dbl_z (F := (d_f (m.2.2.1 0) d).toNat) (by omega) (fun a b ha hb hn => by
          unfold ui
          rw [hz a b ha hb hn]
          rfl)] at h7
        exact ⟨_, h6, h7⟩
      · have h7 := h7.2 rfl
        have n0 : ¬ x2 = 0 := fun q => by rw [q, e0] at j; omega
        have n1 : ¬ x2 = 1 := fun q => by rw [q, e1] at j; omega
        have n2 : ¬ x2 = 2 := fun q => by rw [q, e2] at j; omega
        exact ⟨_, ((h6.2 n0).2 n1).2 n2, h7⟩
    · omega
  · rcases e0_hasDrum h6 with ⟨_, _, _⟩ | ⟨h6, _⟩
    · omega
    · exact ⟨_, h6.2 rfl, h7.1 rfl⟩
