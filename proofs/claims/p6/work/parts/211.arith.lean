/-! Numbers of the machine as integers; rows of bounded numbers. -/
theorem bm32 (x : Int) : Int.bmod x (2 ^ 32) = (x + 2147483648) % 4294967296 - 2147483648 := by
  have e : (2 ^ 32 : Nat) = 4294967296 := by decide
  rw [e]
  unfold Int.bmod
  dsimp only
  split <;> omega
theorem tq_add (a b : Int32) : (a + b).toInt = (a.toInt + b.toInt + 2147483648) % 4294967296 - 2147483648 := by rw [Int32.toInt_add, bm32]
theorem tq_sub (a b : Int32) : (a - b).toInt = (a.toInt - b.toInt + 2147483648) % 4294967296 - 2147483648 := by rw [Int32.toInt_sub, bm32]
theorem tq_mul (a b : Int32) : (a * b).toInt = (a.toInt * b.toInt + 2147483648) % 4294967296 - 2147483648 := by rw [Int32.toInt_mul, bm32]
theorem tq_mulc {c : Int32} {k : Int} (h : c.toInt = k) (x : Int32) : (c * x).toInt = (k * x.toInt + 2147483648) % 4294967296 - 2147483648 := by rw [tq_mul, h]
theorem tq_mulr {c : Int32} {k : Int} (h : c.toInt = k) (x : Int32) : (x * c).toInt = (x.toInt * k + 2147483648) % 4294967296 - 2147483648 := by rw [tq_mul, h]
theorem tq_64 (x : Int32) : (Int32.toInt64 x).toInt = x.toInt := Int32.toInt_toInt64 x
theorem tq_32 (y : Int64) : (Int64.toInt32 y).toInt = (y.toInt + 2147483648) % 4294967296 - 2147483648 := by rw [Int64.toInt_toInt32, bm32]
theorem tq_r (a : Int32) : -2147483648 ≤ a.toInt ∧ a.toInt < 2147483648 := by
  have h1 := Int32.le_toInt a
  have h2 := Int32.toInt_lt a
  omega
theorem tq_ofn {n : Nat} (h : n ≤ 68960) : (Int32.ofNat n).toInt = (n : Int) := Int32.toInt_ofNat_of_lt (by omega)
theorem q_le {a b : Int32} (h : a ≤ b) : a.toInt ≤ b.toInt := Int32.le_iff_toInt_le.mp h
theorem q_lt {a b : Int32} (h : a < b) : a.toInt < b.toInt := Int32.lt_iff_toInt_lt.mp h
theorem q_nle {a b : Int32} (h : ¬ a ≤ b) : b.toInt < a.toInt := by
  have : ¬ a.toInt ≤ b.toInt := fun g => h (Int32.le_iff_toInt_le.mpr g)
  omega
theorem q_nlt {a b : Int32} (h : ¬ a < b) : b.toInt ≤ a.toInt := by
  have : ¬ a.toInt < b.toInt := fun g => h (Int32.lt_iff_toInt_lt.mpr g)
  omega
theorem q_eq {a b : Int32} (h : a = b) : a.toInt = b.toInt := congrArg Int32.toInt h
theorem q_neq {a b : Int32} (h : ¬ a = b) : ¬ a.toInt = b.toInt := fun g => h (Int32.toInt_inj.mp g)
theorem z_ne {a b : Int32} (h : ¬ a.toInt = b.toInt) : ¬ a = b := fun g => h (congrArg Int32.toInt g)
theorem z_nlt {a b : Int32} (h : b.toInt ≤ a.toInt) : ¬ a < b := fun g => by
  have := q_lt g
  omega
theorem tq_ite {a b x y : Int32} : (a.toInt < b.toInt ∧ (if a < b then x else y).toInt = x.toInt) ∨ (b.toInt ≤ a.toInt ∧ (if a < b then x else y).toInt = y.toInt) := by
  by_cases h : a < b
  · rw [if_pos h]
    exact Or.inl ⟨q_lt h, rfl⟩
  · rw [if_neg h]
    exact Or.inr ⟨q_nlt h, rfl⟩
theorem vi {i : Int32} {n : Nat} (h1 : 0 ≤ i.toInt) (h2 : i.toInt < (n : Int)) : vp_in i n := by
  unfold vp_in
  rintro (h | h)
  · have := q_lt h
    have e : (0 : Int32).toInt = 0 := rfl
    omega
  · have e : i.toNatClampNeg = i.toInt.toNat := rfl
    omega
theorem vi_b {i : Int32} {n : Nat} (h : vp_in i n) : 0 ≤ i.toInt ∧ i.toInt < (n : Int) := by
  unfold vp_in at h
  have e : i.toNatClampNeg = i.toInt.toNat := rfl
  have e0 : (0 : Int32).toInt = 0 := rfl
  have h1 : ¬ i < 0 := fun g => h (Or.inl g)
  have h2 : ¬ n ≤ i.toNatClampNeg := fun g => h (Or.inr g)
  have := q_nlt h1
  omega
theorem tn_i (i : Int32) : i.toNatClampNeg = i.toInt.toNat := rfl
theorem nb_b {r : Int32} (h : r.toInt = 0 ∨ r.toInt = 1) : narrow .boolean (.int r) = .int r := by
  rcases h with h | h
  · have e : r = 0 := Int32.toInt_inj.mp h
    subst e
    rfl
  · have e : r = 1 := Int32.toInt_inj.mp h
    subst e
    rfl
theorem tn_le {r : Int32} {n : Nat} (h : r.toInt ≤ (n : Int)) : Int32.toNatClampNeg r ≤ n := by
  rw [tn_i]
  omega
theorem tn_0 {r : Int32} {n : Nat} (h : r.toInt ≤ (n : Int)) : Int32.toNatClampNeg 0 + Int32.toNatClampNeg r ≤ n := by
  rw [tn_i, tn_i]
  have e : (0 : Int32).toInt = 0 := rfl
  omega
theorem tn_0n {r q : Int32} (h : r.toInt ≤ q.toInt) : Int32.toNatClampNeg 0 + Int32.toNatClampNeg r ≤ Int32.toNatClampNeg q := by
  rw [tn_i, tn_i, tn_i]
  have e : (0 : Int32).toInt = 0 := rfl
  omega
def ar (n : Nat) (lo hi : Int) (f : Nat → Int32) : Prop := ∀ k, k < n → lo ≤ (f k).toInt ∧ (f k).toInt ≤ hi
theorem ar_at {n : Nat} {lo hi : Int} {f : Nat → Int32} {x : Int32} (h : ar n lo hi f) (hx : vp_in x n) : lo ≤ (f (Int32.toNatClampNeg x)).toInt ∧ (f (Int32.toNatClampNeg x)).toInt ≤ hi := by
  refine h _ ?_
  have := vi_b hx
  rw [tn_i]
  omega
theorem ar_upd {n : Nat} {lo hi : Int} {f : Nat → Int32} {i : Nat} {v : Int32} (h : ar n lo hi f) (h1 : lo ≤ v.toInt) (h2 : v.toInt ≤ hi) : ar n lo hi (upd f i v) := by
  intro k hk
  unfold upd
  by_cases e : k = i
  · rw [if_pos e]
    exact ⟨h1, h2⟩
  · rw [if_neg e]
    exact h k hk
theorem ar_cpy {n m p : Nat} {lo hi : Int} {f g : Nat → Int32} (h : ar n lo hi f) (h2 : ar n lo hi g) : ar n lo hi (va_cpy f g p p m) := by
  intro k hk
  unfold va_cpy
  by_cases e : p ≤ k ∧ k < p + m
  · rw [if_pos e]
    have : p + (k - p) = k := by omega
    rw [this]
    exact h k hk
  · rw [if_neg e]
    exact h2 k hk
theorem ar_fill {n m : Nat} {lo hi : Int} {f : Nat → Int32} {v : Int32} (h : ar n lo hi f) (h1 : lo ≤ v.toInt) (h2 : v.toInt ≤ hi) : ar n lo hi (fl_f m v f) := by
  intro k hk
  unfold fl_f
  by_cases e : k < m
  · rw [if_pos e]
    exact ⟨h1, h2⟩
  · rw [if_neg e]
    exact h k hk
theorem ar_fillA {n : Nat} {lo hi : Int} {f : Nat → Int32} {v : Int32} (h1 : lo ≤ v.toInt) (h2 : v.toInt ≤ hi) : ar n lo hi (fl_f n v f) := by
  intro k hk
  unfold fl_f
  rw [if_pos hk]
  exact ⟨h1, h2⟩
theorem rw_l {a b : Int32} {R W : Int} (hb : b.toInt = W) (h : 0 ≤ a.toInt ∧ a.toInt < R) (p : 0 ≤ W ∧ R * W ≤ 40) : 0 ≤ (a * b).toInt ∧ (a * b).toInt + W ≤ R * W := by
  have e := tq_mul a b
  rw [hb] at e
  have h1 : 0 ≤ a.toInt * W := Int.mul_nonneg h.1 p.1
  have h2 : (a.toInt + 1) * W ≤ R * W := Int.mul_le_mul_of_nonneg_right (by omega) p.1
  rw [Int.add_mul, Int.one_mul] at h2
  have := p.2
  omega
theorem rw_r {a b : Int32} {R W : Int} (hb : b.toInt = W) (h : 0 ≤ a.toInt ∧ a.toInt < R) (p : 0 ≤ W ∧ R * W ≤ 40) : 0 ≤ (b * a).toInt ∧ (b * a).toInt + W ≤ R * W := by
  have e : b * a = a * b := Int32.mul_comm b a
  rw [e]
  exact rw_l hb h p
theorem sq_b {a : Int32} (h1 : 0 ≤ a.toInt) (h2 : a.toInt ≤ 40) : 0 ≤ (a * a).toInt ∧ (a * a).toInt ≤ 1600 := by
  have e := tq_mul a a
  have g1 : 0 ≤ a.toInt * a.toInt := Int.mul_nonneg h1 h1
  have g2 : a.toInt * a.toInt ≤ 40 * 40 := Int.mul_le_mul h2 h2 h1 (by omega)
  omega
theorem upd_i (f : Nat → Int32) (i : Nat) (v : Int32) : (upd f i v i).toInt = v.toInt := by
  unfold upd
  rw [if_pos rfl]
theorem fu_e (K : Nat) : ∃ n : Nat, n = K := ⟨K, rfl⟩
theorem tq_addr {c : Int32} {k : Int} (h : c.toInt = k) (x : Int32) : (x + c).toInt = (x.toInt + k + 2147483648) % 4294967296 - 2147483648 := by rw [tq_add, h]
theorem tq_addc {c : Int32} {k : Int} (h : c.toInt = k) (x : Int32) : (c + x).toInt = (k + x.toInt + 2147483648) % 4294967296 - 2147483648 := by rw [tq_add, h]
theorem tq_subr {c : Int32} {k : Int} (h : c.toInt = k) (x : Int32) : (x - c).toInt = (x.toInt - k + 2147483648) % 4294967296 - 2147483648 := by rw [tq_sub, h]
theorem tq_subc {c : Int32} {k : Int} (h : c.toInt = k) (x : Int32) : (c - x).toInt = (k - x.toInt + 2147483648) % 4294967296 - 2147483648 := by rw [tq_sub, h]
theorem nw {a y : Int} (e : a = (y + 2147483648) % 4294967296 - 2147483648) (h : -2147483648 ≤ y ∧ y < 2147483648) : a = y := by
  rw [Int.emod_eq_of_lt (by omega) (by omega)] at e
  omega
