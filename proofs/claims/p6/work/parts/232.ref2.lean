theorem wb_tb (n : Nat) : (lN n).toBitVec = BitVec.ofNat 64 n := rfl
theorem wb_inj {a b : Int64} (h : a.toBitVec = b.toBitVec) : a = b := Int64.toBitVec_inj.mp h
theorem wb_tn {n : Nat} (h : n < 2 ^ 64) : (lN n).toBitVec.toNat = n := by rw [wb_tb, BitVec.toNat_ofNat, Nat.mod_eq_of_lt h]
theorem wb_of (x : Int64) : ∃ n, n < 2 ^ 64 ∧ x = lN n := ⟨x.toBitVec.toNat, x.toBitVec.isLt, wb_inj (by rw [wb_tb]; simp)⟩
theorem wb_of32 (x : Int32) : ∃ n, n < 2 ^ 32 ∧ x = nI n := ⟨x.toBitVec.toNat, x.toBitVec.isLt, Int32.toBitVec_inj.mp (by show _ = BitVec.ofNat 32 _; simp)⟩
theorem wb_c : ∀ k, k < 64 → ((nI k).toInt64 &&& 63) = lN k := by decide +kernel
theorem wb_cu : ∀ k, k < 64 → ((nI k).toInt64.toUInt64 &&& Int64.toUInt64 63) = UInt64.ofNat k := by decide +kernel
theorem wb_sm : ∀ k, k < 64 → (BitVec.ofNat 64 k).smod 64 = BitVec.ofNat 64 k := by decide +kernel
theorem wb_pw {a b : Nat} (h : a ≤ b) : 2 ^ b = 2 ^ a * 2 ^ (b - a) := by rw [← Nat.pow_add]; congr 1; omega
theorem wb_lt2 {a b : Nat} (h : a < b) : 2 ^ a < 2 ^ b := Nat.pow_lt_pow_right (by decide) h
theorem wb_mod (n : Nat) : lN n = lN (n % 2 ^ 64) := wb_inj (by rw [wb_tb, wb_tb]; apply BitVec.eq_of_toNat_eq; rw [BitVec.toNat_ofNat, BitVec.toNat_ofNat, Nat.mod_mod])
theorem wb_shr {n k : Nat} (hn : n < 2 ^ 64) (hk : k < 64) : ((lN n).toUInt64 >>> ((nI k).toInt64.toUInt64 &&& Int64.toUInt64 63)).toInt64 = lN (n / 2 ^ k) := by
  rw [wb_cu k hk]
  apply wb_inj
  apply BitVec.eq_of_toNat_eq
  show ((lN n).toUInt64 >>> UInt64.ofNat k).toNat = (BitVec.ofNat 64 _).toNat
  have h1 : (UInt64.ofNat k).toNat = k := by
    show (BitVec.ofNat 64 k).toNat = k
    rw [BitVec.toNat_ofNat, Nat.mod_eq_of_lt (by omega)]
  have h2 : (lN n).toUInt64.toNat = n := wb_tn hn
  rw [UInt64.toNat_shiftRight, h1, h2, Nat.mod_eq_of_lt hk, Nat.shiftRight_eq_div_pow, BitVec.toNat_ofNat, Nat.mod_eq_of_lt (Nat.lt_of_le_of_lt (Nat.div_le_self _ _) hn)]
theorem wb_shl (n : Nat) {k : Nat} (hk : k < 64) : lN n <<< ((nI k).toInt64 &&& 63) = lN (n * 2 ^ k) := by
  rw [wb_c k hk]
  apply wb_inj
  rw [Int64.toBitVec_shiftLeft, wb_tb, wb_tb, wb_tb, wb_sm k hk]
  apply BitVec.eq_of_toNat_eq
  rw [BitVec.shiftLeft_eq', BitVec.toNat_shiftLeft, BitVec.toNat_ofNat, BitVec.toNat_ofNat, BitVec.toNat_ofNat, Nat.mod_eq_of_lt (show k < 2 ^ 64 by omega), Nat.shiftLeft_eq, Nat.mul_mod, Nat.mod_mod, ← Nat.mul_mod]
theorem wb_and {a b : Nat} (ha : a < 2 ^ 64) (hb : b < 2 ^ 64) : lN a &&& lN b = lN (a &&& b) := by
  apply wb_inj
  rw [Int64.toBitVec_and, wb_tb, wb_tb, wb_tb]
  apply BitVec.eq_of_toNat_eq
  rw [BitVec.toNat_and, BitVec.toNat_ofNat, BitVec.toNat_ofNat, BitVec.toNat_ofNat, Nat.mod_eq_of_lt ha, Nat.mod_eq_of_lt hb, Nat.mod_eq_of_lt (Nat.and_lt_two_pow _ hb)]
theorem wb_or {a b : Nat} (ha : a < 2 ^ 64) (hb : b < 2 ^ 64) : lN a ||| lN b = lN (a ||| b) := by
  apply wb_inj
  rw [Int64.toBitVec_or, wb_tb, wb_tb, wb_tb]
  apply BitVec.eq_of_toNat_eq
  rw [BitVec.toNat_or, BitVec.toNat_ofNat, BitVec.toNat_ofNat, BitVec.toNat_ofNat, Nat.mod_eq_of_lt ha, Nat.mod_eq_of_lt hb, Nat.mod_eq_of_lt (Nat.or_lt_two_pow ha hb)]
theorem wb_mask {n k : Nat} (hn : n < 2 ^ 64) (hk : k < 64) : lN n &&& lN (2 ^ k - 1) = lN (n % 2 ^ k) := by
  rw [wb_and hn (by have := wb_lt2 hk; omega), Nat.and_two_pow_sub_one_eq_mod]
theorem wb_a1 {n : Nat} (hn : n < 2 ^ 64) : lN n &&& 1 = lN (n % 2) := wb_mask (k := 1) hn (by decide)
theorem wb_bit {n k : Nat} (hn : n < 2 ^ 64) (hk : k < 64) : ((lN n).toUInt64 >>> ((nI k).toInt64.toUInt64 &&& Int64.toUInt64 63)).toInt64 &&& 1 = lN (n / 2 ^ k % 2) := by
  rw [wb_shr hn hk, wb_a1 (Nat.lt_of_le_of_lt (Nat.div_le_self _ _) hn)]
/-! Sets as bits. -/
theorem nI_z {z : Int32} (h : 0 ≤ z.toInt) : z = nI z.toInt.toNat := Int32.toInt_inj.mp (by
  have r := tq_r z
  have e : (nI z.toInt.toNat).toInt = ((z.toInt.toNat : Nat) : Int) := Int32.toInt_ofNat_of_lt (by omega)
  rw [e]
  omega)
def bs_at (y : Int64) (k : Nat) : Bool := y.toBitVec.toNat.testBit k
theorem bs_0 (k : Nat) : bs_at 0 k = false := by
  unfold bs_at
  show (0 : Nat).testBit k = false
  exact Nat.zero_testBit k
theorem bs_or {y : Int64} {z : Int32} {k : Nat} (hz : 0 ≤ z.toInt ∧ z.toInt < 40) : bs_at (y ||| ((1 : Int64) <<< (Int32.toInt64 z &&& 63))) k = (bs_at y k || decide (z.toInt.toNat = k)) := by
  obtain ⟨n, hn, e⟩ := wb_of y
  have e2 := nI_z hz.1
  generalize hj : z.toInt.toNat = j at e2
  have hj2 : j < 64 := by omega
  subst e
  rw [e2, show (1 : Int64) = lN 1 from rfl, wb_shl 1 hj2, Nat.one_mul, wb_or hn (wb_lt2 hj2)]
  unfold bs_at
  rw [wb_tn hn, wb_tn (Nat.or_lt_two_pow hn (wb_lt2 hj2)), Nat.testBit_or, Nat.testBit_two_pow]
theorem bs_in {y : Int64} {x : Int32} (hx : 0 ≤ x.toInt ∧ x.toInt < 64) : (lg_cmp ((((y).toUInt64 >>> ((Int32.toInt64 x).toUInt64 &&& Int64.toUInt64 63)).toInt64) &&& 1) 1) = 0 ↔ bs_at y x.toInt.toNat = true := by
  obtain ⟨n, hn, e⟩ := wb_of y
  have e2 := nI_z hx.1
  generalize hj : x.toInt.toNat = j at e2
  have hj2 : j < 64 := by omega
  subst e
  rw [lg_cmp_eq, e2, wb_bit hn hj2]
  unfold bs_at
  rw [wb_tn hn, Nat.testBit_eq_decide_div_mod_eq, decide_eq_true_eq]
  have l : n / 2 ^ j % 2 < 2 := Nat.mod_lt _ (by decide)
  constructor
  · intro h
    have g : ∀ m, m < 2 → lN m = 1 → m = 1 := by decide
    exact g _ l h
  · intro h
    rw [h]
    rfl
theorem wq_X7_isInB {post : Int32 → Prop} {y0 : Int64} {x2 : Int32} (hx : 0 ≤ x2.toInt ∧ x2.toInt < 64) (k : ∀ r : Int32, (r.toInt = 1 ∧ bs_at y0 x2.toInt.toNat = true) ∨ (r.toInt = 0 ∧ bs_at y0 x2.toInt.toNat = false) → post r) : wp_X7_isIn post y0 x2 := by
  unfold wp_X7_isIn
  refine ⟨fun c => k _ (Or.inr ⟨rfl, ?_⟩), fun c => k _ (Or.inl ⟨rfl, (bs_in hx).mp c⟩)⟩
  cases h : bs_at y0 x2.toInt.toNat with
  | false => rfl
  | true => exact absurd ((bs_in hx).mpr h) c
/-! Who turns; how far it is to rest. -/
def lf_n (f : Nat → Int64) (c : Nat) : Int := if c_f f c 2 ≤ c_f f c 3 then c_f f c 3 - c_f f c 2 else c_f f c 3 - c_f f c 2 + d_f f (c_f f c 0).toNat
def m_n (f : Nat → Int64) (c : Nat) : Int := c_f f c 4 + (if c_f f c 4 = 0 ∧ c_f f c 1 = c_f f c 2 then lf_n f c else 2 * d_f f (c_f f c 0).toNat - c_f f c 1)
def mu_n (f : Nat → Int64) : Nat → Int
  | 0 => 0
  | n + 1 => mu_n f n + m_n f n
theorem lf_nd (f : Nat → Int64) (c : Nat) : (c_f f c 2 ≤ c_f f c 3 ∧ lf_n f c = c_f f c 3 - c_f f c 2) ∨ (c_f f c 3 < c_f f c 2 ∧ lf_n f c = c_f f c 3 - c_f f c 2 + d_f f (c_f f c 0).toNat) := by
  unfold lf_n
  by_cases h : c_f f c 2 ≤ c_f f c 3
  · rw [if_pos h]
    exact Or.inl ⟨h, rfl⟩
  · rw [if_neg h]
    exact Or.inr ⟨by omega, rfl⟩
theorem m_nd (f : Nat → Int64) (c : Nat) : (c_f f c 4 = 0 ∧ c_f f c 1 = c_f f c 2 ∧ m_n f c = c_f f c 4 + lf_n f c) ∨ ((¬ c_f f c 4 = 0 ∨ ¬ c_f f c 1 = c_f f c 2) ∧ m_n f c = c_f f c 4 + (2 * d_f f (c_f f c 0).toNat - c_f f c 1)) := by
  unfold m_n
  by_cases h : c_f f c 4 = 0 ∧ c_f f c 1 = c_f f c 2
  · rw [if_pos h]
    exact Or.inl ⟨h.1, h.2, rfl⟩
  · rw [if_neg h]
    exact Or.inr ⟨by omega, rfl⟩
theorem m_b {R W D : Int} {f : Nat → Int64} {c : Nat} (hf : rw_ok R W D f) (hD : 0 < D) (hc : c < 40) : 0 ≤ m_n f c ∧ m_n f c ≤ 89 := by
  obtain ⟨q1, _, q3⟩ := hf.2.2.2.2.2.2.2 c hc
  have g := q3 hD
  have g2 := hf.2.2.2.2.2.2.1 (c_f f c 0).toNat (by omega)
  have a := lf_nd f c
  have b := m_nd f c
  omega
theorem mu_b {R W D : Int} {f : Nat → Int64} (hf : rw_ok R W D f) (hD : 0 < D) : ∀ n, n ≤ 40 → 0 ≤ mu_n f n ∧ mu_n f n ≤ 89 * n := by
  intro n
  induction n with
  | zero =>
    intro _
    unfold mu_n
    omega
  | succ n ih =>
    intro hn
    have := ih (by omega)
    have := m_b hf hD (c := n) (by omega)
    unfold mu_n
    omega
def r_eq (f g : Nat → Int64) (c : Nat) : Prop := ∀ i, rw_rel i → ¬ (176 + 8 * c ≤ i ∧ i < 176 + 8 * c + 8) → g i = f i
theorem r_c {f g : Nat → Int64} {c c2 j : Nat} (h : r_eq f g c) (h1 : c2 < 40) (h2 : ¬ c2 = c) (hj : j ≤ 4) : c_f g c2 j = c_f f c2 j := by
  unfold c_f
  rw [h _ (by unfold rw_rel; omega) (by omega)]
theorem r_d {f g : Nat → Int64} {c d : Nat} (h : r_eq f g c) (hd : d < 4) : d_f g d = d_f f d := rw_d (fun i a b => h i a (by omega)) hd
theorem r_m {R W D : Int} {f g : Nat → Int64} {c c2 : Nat} (hf : rw_ok R W D f) (h : r_eq f g c) (h1 : c2 < 40) (h2 : ¬ c2 = c) : m_n g c2 = m_n f c2 := by
  have q := (hf.2.2.2.2.2.2.2 c2 h1).1
  unfold m_n lf_n
  rw [r_c h h1 h2 (by omega : 0 ≤ 4), r_c h h1 h2 (by omega : 1 ≤ 4), r_c h h1 h2 (by omega : 2 ≤ 4), r_c h h1 h2 (by omega : 3 ≤ 4), r_c h h1 h2 (by omega : 4 ≤ 4), r_d h (by omega)]
theorem r_mu {R W D : Int} {f g : Nat → Int64} {c : Nat} {e : Int} (hf : rw_ok R W D f) (h : r_eq f g c) (he : m_n g c ≤ m_n f c - e) (h0 : 0 ≤ e) : ∀ n, n ≤ 40 → mu_n g n ≤ mu_n f n ∧ (c < n → mu_n g n ≤ mu_n f n - e) := by
  intro n
  induction n with
  | zero =>
    intro _
    unfold mu_n
    exact ⟨Int.le_refl _, fun h => absurd h (by omega)⟩
  | succ n ih =>
    intro hn
    have i := ih (by omega)
    unfold mu_n
    by_cases e2 : n = c
    · subst e2
      omega
    · have := r_m hf h (c2 := n) (by omega) e2
      refine ⟨by omega, fun h3 => ?_⟩
      have := i.2 (by omega)
      omega
theorem st_m {R W D : Int} {f g : Nat → Int64} {c : Nat} (hf : rw_ok R W D f) (hg : rw_ok R W D g) (hD : 0 < D) (hc : c < 40) (hl : 0 < lf_n f c) (h : st_r f g c) : m_n g c ≤ m_n f c - 1 := by
  obtain ⟨h1, h2, h3, h4⟩ := h
  have hd : d_f g (c_f g c 0).toNat = d_f f (c_f f c 0).toNat := by
    have q := (hf.2.2.2.2.2.2.2 c hc).1
    rw [h2]
    exact r_d h1 (by omega)
  obtain ⟨q1, _, q3⟩ := hf.2.2.2.2.2.2.2 c hc
  have g1 := q3 hD
  obtain ⟨p1, _, p3⟩ := hg.2.2.2.2.2.2.2 c hc
  have g2 := p3 hD
  have dd := hf.2.2.2.2.2.2.1 (c_f f c 0).toNat (by omega)
  have a := lf_nd f c
  have b := m_nd f c
  have a2 := lf_nd g c
  have b2 := m_nd g c
  rw [hd] at a2 b2 g2
  rw [h3] at a2 g2
  unfold st_i at h4
  omega
theorem mb_i {N R W D : Int} {s t : Md} (h : mb N R W D s) (h5 : t.1 5 = s.1 5) (h0 : t.1 0 = s.1 0) (h2 : t.2.2 = s.2.2) : mb N R W D t := by
  obtain ⟨a0, a1, a2, a3, a4, a5, a6, a7⟩ := h
  unfold mb
  rw [h5, h0, h2]
  exact ⟨a0, a1, a2, a3, a4, a5, a6, a7⟩
theorem wq_X7_findsTurning_L33 {post : Md → Prop} {e91 : Md → Int64 → Int32 → Int32 → Int32 → Prop} {t0 : Md} {w1 : Int64} {z3 : Int32} {N R W D : Int} (h : mb N R W D t0) (hD : 0 < D) (ke : ∀ z4 z5 : Int32, (z4.toInt = -1 ∨ (0 ≤ z4.toInt ∧ z4.toInt < R * W ∧ 0 < lf_c (t0.2.2.1 0) z4)) → e91 t0 w1 z3 z4 z5) : ∀ (n : Nat) (z4 z5 : Int32), (z4.toInt = -1 ∨ (0 ≤ z4.toInt ∧ z4.toInt < R * W ∧ 0 < lf_c (t0.2.2.1 0) z4)) → 0 ≤ z5.toInt ∧ z5.toInt ≤ R * W → R * W - z5.toInt < (n : Int) → wp_X7_findsTurning_L33 post e91 n t0 w1 z3 z4 z5 := by
  have pd := h.2.2.2.1
  have e1 : (1 : Int32).toInt = 1 := rfl
  have m1 : (-1 : Int32).toInt = -1 := rfl
  have e0 : (0 : Int32).toInt = 0 := rfl
  intro n
  induction n with
  | zero =>
    intro z4 z5 _ _ _
    exfalso
    omega
  | succ n ih =>
    intro z4 z5 i1 i2 i3
    unfold wp_X7_findsTurning_L33
    refine wq_X7_cells h (fun r4 a4 => ⟨fun c => ke _ _ i1, fun c => ?_⟩)
    have c2 := q_nle c
    have s5 := nw (tq_addr e1 z5) (by omega)
    have go : ∀ z : Int32, (z.toInt = -1 ∨ (0 ≤ z.toInt ∧ z.toInt < R * W ∧ 0 < lf_c (t0.2.2.1 0) z)) → wp_X7_findsTurning_L33 post e91 n t0 w1 z3 z (z5 + 1) := fun z hz => ih z (z5 + 1) hz (by omega) (by omega)
    refine wq_X7_isIn (fun r7 _ => ⟨fun _ => go _ i1, fun _ => ?_⟩)
    refine wq_X7_leftOf h (by omega) hD (fun r10 a10 b10 => ⟨fun _ => go _ i1, fun c3 => ?_⟩)
    have c4 := q_nle c3
    have new : z5.toInt = -1 ∨ (0 ≤ z5.toInt ∧ z5.toInt < R * W ∧ 0 < lf_c (t0.2.2.1 0) z5) := by omega
    refine ⟨fun _ => go _ new, fun c5 => ?_⟩
    have c6 := q_neq c5
    refine wq_X7_leftOf h (by omega) hD (fun r14 a14 b14 => wq_X7_leftOf h (by omega) hD (fun r16 a16 b16 => ⟨fun _ => go _ i1, fun _ => go _ new⟩))
def ft_I (N R W D : Int) (s t : Md) : Prop := mb N R W D t ∧ ie [1, 2] t.1 s.1 ∧ t.2.2 = s.2.2 ∧ 0 ≤ (t.1 1).toInt ∧ (∀ c, bs_at t.2.1 c = true → (c : Int) < R * W ∧ 0 < lf_n (s.2.2.1 0) c) ∧ (0 < (t.1 1).toInt → ∃ c, bs_at t.2.1 c = true)
theorem wq_X7_findsTurning_L19 {post : Md → Prop} {e174 : Md → Int64 → Int32 → Prop} {s : Md} {N R W D : Int} (hD : 0 < D) (ke : ∀ (t : Md) (w : Int64) (z : Int32), ft_I N R W D s t → (t.1 1).toInt ≤ 40 → e174 t w z) (k : ∀ t : Md, ft_I N R W D s t → (t.1 1).toInt ≤ 40 → post t) : ∀ (n : Nat) (t : Md) (w1 : Int64) (z3 : Int32), ft_I N R W D s t → (t.1 1).toInt ≤ z3.toInt → 0 ≤ z3.toInt ∧ z3.toInt ≤ R * W → R * W - z3.toInt < (n : Int) → wp_X7_findsTurning_L19 post e174 n t w1 z3 := by
  have e1 : (1 : Int32).toInt = 1 := rfl
  have m1 : (-1 : Int32).toInt = -1 := rfl
  have e0 : (0 : Int32).toInt = 0 := rfl
  intro n
  induction n with
  | zero =>
    intro t w1 z3 _ _ _ _
    exfalso
    omega
  | succ n ih =>
    intro t w1 z3 i1 i4 i2 i3
    have h := i1.1
    have pd := h.2.2.2.1
    unfold wp_X7_findsTurning_L19
    refine wq_X7_cells h (fun r1 a1 => ⟨fun c => ke _ _ _ i1 (by omega), fun c => ?_⟩)
    have c2 := q_nle c
    have s3 := nw (tq_addr e1 z3) (by omega)
    obtain ⟨nf, hf⟩ := fu_e 50
    refine ⟨nf, wq_X7_findsTurning_L33 h hD (fun z4 z5 hz => ?_) nf (-1) 0 (Or.inl m1) (by omega) (by omega)⟩
    refine ⟨fun c3 => ?_, fun c3 => k _ i1 (by omega)⟩
    have c4 := q_neq c3
    have hz2 : 0 ≤ z4.toInt ∧ z4.toInt < R * W ∧ 0 < lf_c (t.2.2.1 0) z4 := by omega
    refine wq_X7_current h (by omega) (fun r20 => ⟨fun _ => ?_, fun _ => ih _ _ _ i1 (by omega) (by omega) (by omega)⟩)
    have s1 := nw (tq_addr e1 (t.1 1)) (by have := i1.2.2.2.1; omega)
    have hb : ∀ c, bs_at (t.2.1 ||| ((1 : Int64) <<< (Int32.toInt64 z4 &&& 63))) c = (bs_at t.2.1 c || decide (z4.toInt.toNat = c)) := fun c => bs_or (by omega)
    refine wq_X7_current (N := N) (R := R) (W := W) (D := D) (mb_i h rfl rfl rfl) (by omega) (fun r23 => ih _ _ _ ⟨mb_i h rfl rfl rfl, ?_, i1.2.2.1, ?_, ?_, ?_⟩ ?_ (by omega) (by omega))
    · exact ie_up (ie_up i1.2.1 (by decide)) (by decide)
    · show 0 ≤ (t.1 1 + 1).toInt
      have := i1.2.2.2.1
      omega
    · intro c hc
      have hc2 : bs_at (t.2.1 ||| ((1 : Int64) <<< (Int32.toInt64 z4 &&& 63))) c = true := hc
      rw [hb c, Bool.or_eq_true, decide_eq_true_eq] at hc2
      rcases hc2 with g | g
      · exact i1.2.2.2.2.1 c g
      · subst g
        refine ⟨by omega, ?_⟩
        have q := hz2.2.2
        have e : t.2.2.1 0 = s.2.2.1 0 := by rw [i1.2.2.1]
        rw [e] at q
        exact q
    · intro _
      refine ⟨z4.toInt.toNat, ?_⟩
      show bs_at (t.2.1 ||| ((1 : Int64) <<< (Int32.toInt64 z4 &&& 63))) _ = true
      rw [hb]
      simp
    · show (t.1 1 + 1).toInt ≤ (z3 + 1).toInt
      have := i1.2.2.2.1
      omega
theorem wq_X7_findsTurning {post : Md → Prop} {s0 : Md} {N R W D : Int} (h : mb N R W D s0) (hD : 0 < D) (k : ∀ u : Md, ft_I N R W D s0 u → (u.1 1).toInt ≤ 40 → post u) : wp_X7_findsTurning post s0 := by
  unfold wp_X7_findsTurning
  have pd := h.2.2.2.1
  have e0 : (0 : Int32).toInt = 0 := rfl
  obtain ⟨nf, hf⟩ := fu_e 50
  refine ⟨nf, wq_X7_findsTurning_L19 (s := s0) hD (fun t w z a b => k t a b) (fun t a b => k t a b) nf _ _ _ ⟨mb_i h rfl rfl rfl, ie_up (ie_up (ie_refl _ _) (by decide)) (by decide), rfl, ?_, ?_, ?_⟩ ?_ (by omega) (by omega)⟩
  · show 0 ≤ (0 : Int32).toInt
    omega
  · intro c hc
    have : bs_at 0 c = true := hc
    rw [bs_0] at this
    exact absurd this (by decide)
  · intro hc
    have : 0 < (0 : Int32).toInt := hc
    omega
  · show (0 : Int32).toInt ≤ (0 : Int32).toInt
    omega
