/-! How many bits are set: the class's way, which adds in parallel, and one by one. -/
def pc8 (b : Nat) : Nat := ct (fun k => b.testBit k) 8
def g1 (b : Nat) : Nat := b - ((b / 2) &&& 85)
def g2 (a : Nat) : Nat := (a &&& 51) + ((a / 4) &&& 51)
def g3 (c : Nat) : Nat := (c + c / 16) % 16
theorem g_all : ∀ b, b < 256 → g3 (g2 (g1 b)) = pc8 b ∧ g1 b < 256 ∧ g2 (g1 b) < 69 ∧ g2 (g1 b) % 16 < 5 ∧ ((b / 2) &&& 85) ≤ b ∧ pc8 b ≤ 8 := by decide +kernel
def rep (m : Nat) : Nat → Nat
  | 0 => 0
  | n + 1 => m + 256 * rep m n
def dg (b : Nat → Nat) : Nat → Nat
  | 0 => 0
  | n + 1 => b 0 + 256 * dg (fun i => b (i + 1)) n
theorem and_low {x m j : Nat} (hm : m < 2 ^ j) : x &&& m = (x % 2 ^ j) &&& m := by
  have h1 : (x &&& m) % 2 ^ j = (x % 2 ^ j) &&& (m % 2 ^ j) := Nat.and_mod_two_pow
  have h2 : x &&& m ≤ m := Nat.and_le_right
  rw [Nat.mod_eq_of_lt (by omega), Nat.mod_eq_of_lt hm] at h1
  exact h1
theorem and_spl {x m M : Nat} (hm : m < 256) : x &&& (m + 256 * M) = (x &&& m) + 256 * ((x / 256) &&& M) := by
  have e : (2 : Nat) ^ 8 = 256 := by decide
  have h1 : (x &&& (m + 256 * M)) % 2 ^ 8 = (x % 2 ^ 8) &&& ((m + 256 * M) % 2 ^ 8) := Nat.and_mod_two_pow
  have h2 : (x &&& (m + 256 * M)) / 2 ^ 8 = (x / 2 ^ 8) &&& ((m + 256 * M) / 2 ^ 8) := Nat.and_div_two_pow
  have h3 : x &&& m = (x % 2 ^ 8) &&& m := and_low (by rw [e]; exact hm)
  rw [e] at h1 h2 h3
  have a1 : (m + 256 * M) % 256 = m := by omega
  have a2 : (m + 256 * M) / 256 = M := by omega
  rw [a1] at h1
  rw [a2] at h2
  omega
theorem sh_and {s m : Nat} (hs : s ≤ 8) (hm : m < 2 ^ (8 - s)) : ∀ (n : Nat) (b : Nat → Nat), (∀ i, b i < 256) → (dg b n / 2 ^ s) &&& rep m n = dg (fun i => (b i / 2 ^ s) &&& m) n := by
  have p : 2 ^ s * 2 ^ (8 - s) = 256 := by
    rw [← Nat.pow_add]
    have : s + (8 - s) = 8 := by omega
    rw [this]
  have p1 : 2 ^ (8 - s) ≤ 256 := Nat.le_of_dvd (by decide) ⟨2 ^ s, by rw [Nat.mul_comm]; exact p.symm⟩
  have ps : 0 < 2 ^ s := Nat.two_pow_pos s
  intro n
  induction n with
  | zero =>
    intro b hb
    exact Nat.and_zero _
  | succ n ih =>
    intro b hb
    show (b 0 + 256 * dg (fun i => b (i + 1)) n) / 2 ^ s &&& (m + 256 * rep m n) = ((b 0 / 2 ^ s) &&& m) + 256 * dg (fun i => (b (i + 1) / 2 ^ s) &&& m) n
    rw [and_spl (by omega), ← ih (fun i => b (i + 1)) (fun i => hb (i + 1))]
    generalize dg (fun i => b (i + 1)) n = Y
    have hb0 := hb 0
    have q : (b 0 + 256 * Y) / 2 ^ s = b 0 / 2 ^ s + 2 ^ (8 - s) * Y := by
      rw [← p, Nat.mul_assoc]
      exact Nat.add_mul_div_left _ _ ps
    have lt : b 0 / 2 ^ s < 2 ^ (8 - s) := Nat.div_lt_of_lt_mul (by rw [p]; exact hb0)
    have h1 : (b 0 + 256 * Y) / 2 ^ s &&& m = (b 0 / 2 ^ s) &&& m := by
      rw [and_low hm, q, Nat.add_mul_mod_self_left, Nat.mod_eq_of_lt lt]
    have h2 : (b 0 + 256 * Y) / 2 ^ s / 256 = Y / 2 ^ s := by
      rw [Nat.div_div_eq_div_mul, Nat.mul_comm (2 ^ s) 256, ← Nat.div_div_eq_div_mul]
      have : (b 0 + 256 * Y) / 256 = Y := by omega
      rw [this]
    rw [h1, h2]
theorem dg_lt {b : Nat → Nat} (hb : ∀ i, b i < 256) : ∀ n, dg b n < 256 ^ n := by
  intro n
  induction n generalizing b with
  | zero => exact Nat.one_pos
  | succ n ih =>
    have := ih (b := fun i => b (i + 1)) (fun i => hb (i + 1))
    have h0 := hb 0
    show b 0 + 256 * dg (fun i => b (i + 1)) n < 256 ^ n * 256
    omega
theorem dg_add {a b : Nat → Nat} : ∀ n, dg a n + dg b n = dg (fun i => a i + b i) n := by
  intro n
  induction n generalizing a b with
  | zero => rfl
  | succ n ih =>
    have := ih (a := fun i => a (i + 1)) (b := fun i => b (i + 1))
    show a 0 + 256 * dg (fun i => a (i + 1)) n + (b 0 + 256 * dg (fun i => b (i + 1)) n) = a 0 + b 0 + 256 * dg (fun i => a (i + 1) + b (i + 1)) n
    omega
theorem dg_sub {a b : Nat → Nat} (h : ∀ i, b i ≤ a i) : ∀ n, dg a n - dg b n = dg (fun i => a i - b i) n ∧ dg b n ≤ dg a n := by
  intro n
  induction n generalizing a b with
  | zero => exact ⟨rfl, Nat.le_refl _⟩
  | succ n ih =>
    have := ih (a := fun i => a (i + 1)) (b := fun i => b (i + 1)) (fun i => h (i + 1))
    have h0 := h 0
    show a 0 + 256 * dg (fun i => a (i + 1)) n - (b 0 + 256 * dg (fun i => b (i + 1)) n) = a 0 - b 0 + 256 * dg (fun i => a (i + 1) - b (i + 1)) n ∧ b 0 + 256 * dg (fun i => b (i + 1)) n ≤ a 0 + 256 * dg (fun i => a (i + 1)) n
    omega
theorem dg_c {a b : Nat → Nat} (h : ∀ i, a i = b i) (n : Nat) : dg a n = dg b n := by
  have e : a = b := funext h
  rw [e]
theorem dg_16 {c : Nat → Nat} : ∀ n, dg c n % 16 = if n = 0 then 0 else c 0 % 16 := by
  intro n
  cases n with
  | zero => rfl
  | succ n =>
    rw [if_neg (Nat.succ_ne_zero n)]
    show (c 0 + 256 * dg (fun i => c (i + 1)) n) % 16 = _
    omega
/-- the third step: both halves of a byte added -/
theorem st3 : ∀ (n : Nat) (c : Nat → Nat), (∀ i, c i < 69 ∧ c i % 16 < 5) → (dg c n + dg c n / 16) &&& rep 15 n = dg (fun i => g3 (c i)) n := by
  intro n
  induction n with
  | zero =>
    intro c hc
    exact Nat.and_zero _
  | succ n ih =>
    intro c hc
    show (c 0 + 256 * dg (fun i => c (i + 1)) n + (c 0 + 256 * dg (fun i => c (i + 1)) n) / 16) &&& (15 + 256 * rep 15 n) = g3 (c 0) + 256 * dg (fun i => g3 (c (i + 1))) n
    have d16 := dg_16 (c := fun i => c (i + 1)) n
    have i := ih (fun i => c (i + 1)) (fun i => hc (i + 1))
    rw [and_spl (by decide), ← i]
    have lo : dg (fun i => c (i + 1)) n % 16 < 5 := by
      rw [d16]
      by_cases q : n = 0
      · rw [if_pos q]
        decide
      · rw [if_neg q]
        exact (hc 1).2
    generalize dg (fun i => c (i + 1)) n = X at *
    have h0 := hc 0
    have e1 : c 0 + 256 * X + (c 0 + 256 * X) / 16 &&& 15 = g3 (c 0) := by
      have e : (2 : Nat) ^ 4 - 1 = 15 := by decide
      rw [← e, Nat.and_two_pow_sub_one_eq_mod]
      unfold g3
      omega
    have e2 : (c 0 + 256 * X + (c 0 + 256 * X) / 16) / 256 = X + X / 16 := by omega
    rw [e1, e2]
