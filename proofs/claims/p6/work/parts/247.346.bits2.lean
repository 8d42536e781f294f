/-! bitCount is bits. -/
def nn (y : Int64) : Nat := y.toUInt64.toNat
theorem nn_lt (y : Int64) : nn y < 18446744073709551616 := y.toUInt64.toNat_lt
theorem nn_add (a b : Int64) : nn (a + b) = (nn a + nn b) % 18446744073709551616 := UInt64.toNat_add a.toUInt64 b.toUInt64
theorem nn_and (a b : Int64) : nn (a &&& b) = nn a &&& nn b := UInt64.toNat_and a.toUInt64 b.toUInt64
theorem nn_sub (a b : Int64) : nn (a - b) = (18446744073709551616 - nn b + nn a) % 18446744073709551616 := UInt64.toNat_sub a.toUInt64 b.toUInt64
theorem nn_sh {y : Int64} {k : UInt64} {n : Nat} (h : k.toNat = n) (hn : n < 64) : nn ((y.toUInt64 >>> k).toInt64) = nn y / 2 ^ n := by
  show (y.toUInt64 >>> k).toNat = _
  rw [UInt64.toNat_shiftRight, h, Nat.mod_eq_of_lt hn, Nat.shiftRight_eq_div_pow]
  rfl
theorem swar {b : Nat → Nat} (hb : ∀ i, b i < 256) {X1 X2 : Nat} (h1 : X1 = dg b 8 - ((dg b 8 / 2) &&& 6148914691236517205)) (h2 : X2 = (X1 &&& 3689348814741910323) + ((X1 / 4) &&& 3689348814741910323)) : (X2 + X2 / 16) &&& 1085102592571150095 = dg (fun i => pc8 (b i)) 8 ∧ ((dg b 8 / 2) &&& 6148914691236517205) ≤ dg b 8 ∧ X2 < 1000000000000000000 * 10 ∧ X1 < 18446744073709551616 := by
  have r5 : rep 85 8 = 6148914691236517205 := by decide
  have r3 : rep 51 8 = 3689348814741910323 := by decide
  have r0 : rep 15 8 = 1085102592571150095 := by decide
  have a1 := sh_and (s := 1) (m := 85) (by decide) (by decide) 8 b hb
  have p1 : (2 : Nat) ^ 1 = 2 := by decide
  rw [p1, r5] at a1
  have sb := dg_sub (a := b) (b := fun i => (b i / 2) &&& 85) (fun i => (g_all (b i) (hb i)).2.2.2.2.1) 8
  rw [a1, sb.1] at h1
  have h1 : X1 = dg (fun i => g1 (b i)) 8 := h1
  have hb1 : ∀ i, g1 (b i) < 256 := fun i => (g_all (b i) (hb i)).2.1
  have a2 := sh_and (s := 2) (m := 51) (by decide) (by decide) 8 (fun i => g1 (b i)) hb1
  have a3 := sh_and (s := 0) (m := 51) (by decide) (by decide) 8 (fun i => g1 (b i)) hb1
  have p2 : (2 : Nat) ^ 2 = 4 := by decide
  have p0 : (2 : Nat) ^ 0 = 1 := by decide
  rw [p2, r3] at a2
  rw [p0, r3, Nat.div_one] at a3
  have e3 : ∀ i, (g1 (b i) / 1) &&& 51 = g1 (b i) &&& 51 := fun i => by rw [Nat.div_one]
  rw [h1, a2, a3, dg_c e3, dg_add] at h2
  have h2 : X2 = dg (fun i => g2 (g1 (b i))) 8 := h2
  have a4 := st3 8 (fun i => g2 (g1 (b i))) (fun i => ⟨(g_all (b i) (hb i)).2.2.1, (g_all (b i) (hb i)).2.2.2.1⟩)
  rw [r0, ← h2] at a4
  have l1 := dg_lt hb1 8
  have l2 : ∀ c : Nat → Nat, (∀ i, c i < 69) → dg c 8 < 10000000000000000000 := fun c hc => by
    have c0 := hc 0
    have c1 := hc 1
    have c2 := hc 2
    have c3 := hc 3
    have c4 := hc 4
    have c5 := hc 5
    have c6 := hc 6
    have c7 := hc 7
    show c 0 + 256 * (c 1 + 256 * (c 2 + 256 * (c 3 + 256 * (c 4 + 256 * (c 5 + 256 * (c 6 + 256 * (c 7 + 256 * 0))))))) < _
    omega
  have l3 := l2 (fun i => g2 (g1 (b i))) (fun i => (g_all (b i) (hb i)).2.2.1)
  rw [← h2] at l3
  rw [← h1] at l1
  have p8 : (256 : Nat) ^ 8 = 18446744073709551616 := by decide
  rw [p8] at l1
  refine ⟨a4.trans (dg_c (fun i => (g_all (b i) (hb i)).1) 8), ?_, by omega, l1⟩
  rw [a1]
  exact sb.2
theorem fold8 {c : Nat → Nat} (hc : ∀ i, c i ≤ 8) {X D E F : Nat} (h0 : X = dg c 8) (h1 : D = X + X / 256) (h2 : E = D + D / 65536) (h3 : F = E + E / 4294967296) : F % 128 = c 0 + c 1 + c 2 + c 3 + c 4 + c 5 + c 6 + c 7 ∧ F < 18446744073709551616 ∧ E < 18446744073709551616 ∧ D < 18446744073709551616 := by
  have c0 := hc 0
  have c1 := hc 1
  have c2 := hc 2
  have c3 := hc 3
  have c4 := hc 4
  have c5 := hc 5
  have c6 := hc 6
  have c7 := hc 7
  have h0 : X = c 0 + 256 * (c 1 + 256 * (c 2 + 256 * (c 3 + 256 * (c 4 + 256 * (c 5 + 256 * (c 6 + 256 * (c 7 + 256 * 0))))))) := h0
  generalize c 0 = x0 at *
  generalize c 1 = x1 at *
  generalize c 2 = x2 at *
  generalize c 3 = x3 at *
  generalize c 4 = x4 at *
  generalize c 5 = x5 at *
  generalize c 6 = x6 at *
  generalize c 7 = x7 at *
  have d1 : X / 256 = x1 + 256 * (x2 + 256 * (x3 + 256 * (x4 + 256 * (x5 + 256 * (x6 + 256 * x7))))) := by omega
  have d2 : D / 65536 = (x2 + x3) + 256 * ((x3 + x4) + 256 * ((x4 + x5) + 256 * ((x5 + x6) + 256 * ((x6 + x7) + 256 * x7)))) := by omega
  have d3 : E / 4294967296 = (x4 + x5 + x6 + x7) + 256 * ((x5 + x6 + x7) + 256 * ((x6 + x7) + 256 * x7)) := by omega
  omega
def byt (Y : Nat) (i : Nat) : Nat := Y / 2 ^ (8 * i) % 256
theorem byt_dg {Y : Nat} : ∀ n j, dg (fun i => byt Y (j + i)) n = Y / 2 ^ (8 * j) % 256 ^ n := by
  intro n
  induction n with
  | zero =>
    intro j
    rw [Nat.pow_zero, Nat.mod_one]
    rfl
  | succ n ih =>
    intro j
    have i := ih (j + 1)
    have e : (fun i => byt Y (j + (i + 1))) = (fun i => byt Y (j + 1 + i)) := funext (fun i => by
      have : j + (i + 1) = j + 1 + i := by omega
      rw [this])
    show byt Y (j + 0) + 256 * dg (fun i => byt Y (j + (i + 1))) n = _
    rw [e, i]
    have p : Y / 2 ^ (8 * (j + 1)) = Y / 2 ^ (8 * j) / 256 := by
      rw [Nat.mul_add, Nat.pow_add, Nat.div_div_eq_div_mul]
    rw [p]
    unfold byt
    rw [Nat.add_zero]
    generalize Y / 2 ^ (8 * j) = Z
    rw [Nat.pow_succ, Nat.mul_comm (256 ^ n) 256, Nat.mod_mul]
theorem ct_byt {Y : Nat} (i : Nat) : ct (fun k => Y.testBit k) (8 * i + 8) = ct (fun k => Y.testBit k) (8 * i) + pc8 (byt Y i) := by
  have t : ∀ j, j < 8 → (byt Y i).testBit j = Y.testBit (8 * i + j) := fun j hj => by
    unfold byt
    have e : (256 : Nat) = 2 ^ 8 := by decide
    rw [e, Nat.testBit_mod_two_pow, Nat.testBit_div_two_pow, decide_eq_true hj, Bool.true_and, Nat.add_comm]
  have u : ∀ (T : Nat → Bool) (a : Nat), ct T (a + 8) = ct T a + (if T a then 1 else 0) + (if T (a + 1) then 1 else 0) + (if T (a + 2) then 1 else 0) + (if T (a + 3) then 1 else 0) + (if T (a + 4) then 1 else 0) + (if T (a + 5) then 1 else 0) + (if T (a + 6) then 1 else 0) + (if T (a + 7) then 1 else 0) := fun T a => rfl
  have v := u (fun k => (byt Y i).testBit k) 0
  have w := u (fun k => Y.testBit k) (8 * i)
  have z : ct (fun k => (byt Y i).testBit k) 0 = 0 := rfl
  unfold pc8
  have v : ct (fun k => (byt Y i).testBit k) 8 = ct (fun k => (byt Y i).testBit k) 0 + (if (byt Y i).testBit 0 then 1 else 0) + (if (byt Y i).testBit 1 then 1 else 0) + (if (byt Y i).testBit 2 then 1 else 0) + (if (byt Y i).testBit 3 then 1 else 0) + (if (byt Y i).testBit 4 then 1 else 0) + (if (byt Y i).testBit 5 then 1 else 0) + (if (byt Y i).testBit 6 then 1 else 0) + (if (byt Y i).testBit 7 then 1 else 0) := rfl
  rw [z, t 0 (by decide), t 1 (by decide), t 2 (by decide), t 3 (by decide), t 4 (by decide), t 5 (by decide), t 6 (by decide), t 7 (by decide)] at v
  rw [w, v]
  show _ = ct (fun k => Y.testBit k) (8 * i) + (0 + (if Y.testBit (8 * i + 0) then 1 else 0) + _ + _ + _ + _ + _ + _ + _)
  rw [Nat.add_zero (8 * i)]
  omega
