/-! Boards: the class's beside the reference's row; which flap a sign is wanted by. -/
theorem bs_sr {w : Int64} {k : Nat} (hk : k < 64) : (w >>> ((nI k).toInt64 &&& 63)) &&& 1 = lN (if bs_at w k = true then 1 else 0) := by
  rw [wb_c k hk]
  obtain ⟨n, hn, e⟩ := wb_of (w >>> lN k)
  have hb : n.testBit 0 = bs_at w k := by
    have e2 : (w >>> lN k).toBitVec.toNat = n := by
      rw [e]
      exact wb_tn hn
    rw [← e2]
    show (w >>> lN k).toBitVec.getLsbD 0 = w.toBitVec.getLsbD k
    rw [Int64.toBitVec_shiftRight, wb_tb, wb_sm k hk]
    show (w.toBitVec.sshiftRight (BitVec.ofNat 64 k).toNat).getLsbD 0 = _
    rw [BitVec.toNat_ofNat, Nat.mod_eq_of_lt (by omega), BitVec.getLsbD_sshiftRight]
    simp [hk]
  rw [e, wb_a1 hn, ← hb, Nat.testBit_zero]
  rcases Nat.mod_two_eq_zero_or_one n with h | h <;> simp [h]
theorem bs_wt {w : Int64} {x : Int32} (hx : 0 ≤ x.toInt ∧ x.toInt < 64) : (lg_cmp ((w >>> (Int32.toInt64 x &&& 63)) &&& 1) 0 = 0) ↔ bs_at w x.toInt.toNat = false := by
  have e2 := nI_z hx.1
  generalize hj : x.toInt.toNat = j at e2
  have hj2 : j < 64 := by omega
  rw [lg_cmp_eq, e2, bs_sr hj2]
  cases bs_at w j with
  | false => exact ⟨fun _ => rfl, fun _ => rfl⟩
  | true => exact ⟨fun h => absurd h (by decide), fun h => absurd h (by decide)⟩
theorem bs_not {w : Int64} {k : Nat} (hk : k < 64) : bs_at (w ^^^ (-1)) k = !bs_at w k := by
  show (w ^^^ (-1)).toBitVec.getLsbD k = !w.toBitVec.getLsbD k
  rw [Int64.toBitVec_xor, BitVec.getLsbD_xor, show (-1 : Int64).toBitVec = BitVec.allOnes 64 from rfl, BitVec.getLsbD_allOnes]
  simp [hk]
/-- a drum as it may be: its flaps, its current, its signs -/
def DG (f : Nat → Int64) (d : Nat) : Prop := d_f f d ≤ 40 ∧ 1 ≤ (f (8 + 42 * d)).toInt ∧ (f (8 + 42 * d)).toInt ≤ 9 ∧ ∀ k : Nat, (k : Int) < d_f f d → 32 ≤ (f (8 + 42 * d + 2 + k)).toInt ∧ (f (8 + 42 * d + 2 + k)).toInt ≤ 126
theorem DG_k {f g : Nat → Int64} {d : Nat} (h : DG f d) (e : ∀ i, 8 + 42 * d ≤ i → i < 8 + 42 * d + 42 → g i = f i) : DG g d := by
  obtain ⟨h1, h2, h3, h4⟩ := h
  have ed : d_f g d = d_f f d := by
    unfold d_f
    rw [e _ (by omega) (by omega)]
  refine ⟨by rw [ed]; exact h1, by rw [e _ (by omega) (by omega)]; exact h2, by rw [e _ (by omega) (by omega)]; exact h3, fun k hk => ?_⟩
  rw [ed] at hk
  rw [e _ (by omega) (by omega)]
  exact h4 k hk
def RB (s : Bd) (f : Nat → Int64) : Prop := (s.1 0 = Int64.toInt32 (f 0) ∧ s.1 1 = Int64.toInt32 (f 1) ∧ s.1 2 = Int64.toInt32 (f 2) ∧ s.1 3 = Int64.toInt32 (f 3)) ∧ (((f 3).toInt ≤ 4 ∧ ((f 0).toInt ≤ 0 ∨ 0 < (f 1).toInt)) ∧ ∀ d : Nat, (d : Int) < (f 3).toInt → DG f d ∧ s.2.1 0 d = Int64.toInt32 (f (8 + 42 * d)) ∧ s.2.1 1 d = Int64.toInt32 (f (8 + 42 * d + 1)) ∧ ∀ k : Nat, (k : Int) < d_f f d → s.2.1 2 (40 * d + k) = Int64.toInt32 (f (8 + 42 * d + 2 + k))) ∧ (∀ c : Nat, (c : Int) < (f 0).toInt * (f 1).toInt → (∀ j : Nat, j < 7 → s.2.1 (3 + j) c = Int64.toInt32 (f (176 + 8 * c + j))) ∧ s.2.2.1 c = f (176 + 8 * c + 7) ∧ bs_at (f (176 + 8 * c + 7)) 0 = false)
theorem t32 {y : Int64} (h : -2147483648 ≤ y.toInt ∧ y.toInt < 2147483648) : (Int64.toInt32 y).toInt = y.toInt := nw (tq_32 y) h
theorem ixc {x j : Int32} (h0 : 0 ≤ x.toInt) (h1 : x.toInt < 40) (h2 : 0 ≤ j.toInt) (h3 : j.toInt < 8) : Int32.toNatClampNeg ((176 + (8 * x)) + j) = 176 + 8 * x.toInt.toNat + j.toInt.toNat := by
  have e8 : (8 : Int32).toInt = 8 := rfl
  have e176 : (176 : Int32).toInt = 176 := rfl
  have a1 := nw (tq_mulc e8 x) (by omega)
  have a2 := nw (tq_addc e176 (8 * x)) (by omega)
  have a3 := nw (tq_add (176 + 8 * x) j) (by omega)
  rw [tn_i]
  omega
theorem ixd {x : Int32} (h0 : 0 ≤ x.toInt) (h1 : x.toInt < 4) : Int32.toNatClampNeg ((8 + (42 * x)) + 1) = 8 + 42 * x.toInt.toNat + 1 := by
  have e8 : (8 : Int32).toInt = 8 := rfl
  have e42 : (42 : Int32).toInt = 42 := rfl
  have e1 : (1 : Int32).toInt = 1 := rfl
  have a1 := nw (tq_mulc e42 x) (by omega)
  have a2 := nw (tq_addc e8 (42 * x)) (by omega)
  have a3 := nw (tq_addr e1 (8 + 42 * x)) (by omega)
  rw [tn_i]
  omega
theorem ixs {x k : Int32} (h0 : 0 ≤ x.toInt) (h1 : x.toInt < 4) (h2 : 0 ≤ k.toInt) (h3 : k.toInt < 40) : Int32.toNatClampNeg (((8 + (42 * x)) + 2) + k) = 8 + 42 * x.toInt.toNat + 2 + k.toInt.toNat := by
  have e8 : (8 : Int32).toInt = 8 := rfl
  have e42 : (42 : Int32).toInt = 42 := rfl
  have e2 : (2 : Int32).toInt = 2 := rfl
  have a1 := nw (tq_mulc e42 x) (by omega)
  have a2 := nw (tq_addc e8 (42 * x)) (by omega)
  have a3 := nw (tq_addr e2 (8 + 42 * x)) (by omega)
  have a4 := nw (tq_add ((8 + 42 * x) + 2) k) (by omega)
  rw [tn_i]
  omega
theorem e7_of {P : Int32 → Prop} {s : Md} {x j : Int32} {i : Nat} (h0 : 0 ≤ x.toInt) (h1 : x.toInt < 40) (hj : j.toInt = (i : Int)) (hi : i < 8) (h : wp_X7_of P s x j) : P (Int64.toInt32 (s.2.2.1 0 (176 + 8 * x.toInt.toNat + i))) := by
  unfold wp_X7_of at h
  have h := h.2
  rw [ixc h0 h1 (by omega) (by omega), show j.toInt.toNat = i by omega] at h
  exact h
theorem e7_wornOf {P : Int64 → Prop} {s : Md} {x : Int32} (h0 : 0 ≤ x.toInt) (h1 : x.toInt < 40) (h : wp_X7_wornOf P s x) : P (s.2.2.1 0 (176 + 8 * x.toInt.toNat + 7)) := by
  unfold wp_X7_wornOf at h
  have h := h.2
  rw [ixc h0 h1 (by decide) (by decide)] at h
  exact h
theorem e7_signOf {P : Int32 → Prop} {s : Md} {x k : Int32} (h0 : 0 ≤ x.toInt) (h1 : x.toInt < 4) (h2 : 0 ≤ k.toInt) (h3 : k.toInt < 40) (h : wp_X7_signOf P s x k) : P (Int64.toInt32 (s.2.2.1 0 (8 + 42 * x.toInt.toNat + 2 + k.toInt.toNat))) := by
  unfold wp_X7_signOf at h
  have h := h.2
  rw [ixs h0 h1 h2 h3] at h
  exact h
theorem e7_flapsOf {P : Int32 → Prop} {s : Md} {x : Int32} (h0 : 0 ≤ x.toInt) (h1 : x.toInt < 4) (h : wp_X7_flapsOf P s x) : P (Int64.toInt32 (s.2.2.1 0 (8 + 42 * x.toInt.toNat + 1))) := by
  unfold wp_X7_flapsOf at h
  have h := h.2
  rw [ixd h0 h1] at h
  exact h
theorem e7_isIn {P : Int32 → Prop} {y : Int64} {x : Int32} (hx : 0 ≤ x.toInt ∧ x.toInt < 64) (h : wp_X7_isIn P y x) : (P 1 ∧ bs_at y x.toInt.toNat = true) ∨ (P 0 ∧ bs_at y x.toInt.toNat = false) := by
  unfold wp_X7_isIn at h
  by_cases c : lg_cmp ((((y).toUInt64 >>> ((Int32.toInt64 x).toUInt64 &&& Int64.toUInt64 63)).toInt64) &&& 1) 1 = 0
  · exact Or.inl ⟨h.2 c, (bs_in hx).mp c⟩
  · refine Or.inr ⟨h.1 c, ?_⟩
    cases g : bs_at y x.toInt.toNat with
    | false => rfl
    | true => exact absurd ((bs_in hx).mpr g) c
theorem e7_on {P : Int32 → Prop} {x0 x1 x2 : Int32} (h2 : 1 ≤ x2.toInt ∧ x2.toInt ≤ 40) (h0 : 0 ≤ x0.toInt ∧ x0.toInt < x2.toInt) (h1 : 0 ≤ x1.toInt ∧ x1.toInt < x2.toInt) (h : wp_X7_on P x0 x1 x2) : ∃ r, P r ∧ ((x0.toInt ≤ x1.toInt ∧ r.toInt = x1.toInt - x0.toInt) ∨ (x1.toInt < x0.toInt ∧ r.toInt = x1.toInt - x0.toInt + x2.toInt)) := by
  obtain ⟨r, a, b⟩ := dt_both (dt_X7_on x0 x1 x2) (P := P) (Q := fun r => (x0.toInt ≤ x1.toInt ∧ r.toInt = x1.toInt - x0.toInt) ∨ (x1.toInt < x0.toInt ∧ r.toInt = x1.toInt - x0.toInt + x2.toInt)) h (wq_X7_on h2 h0 h1 (fun r a => a))
  exact ⟨r, a, b⟩
/-- what a row that is sound says of a cell: its drum, how many flaps, what it shows, believes, wants -/
theorem cl_f {R W D : Int} {f : Nat → Int64} {c : Nat} (hf : rw_ok R W D f) (hD : 0 < D) (hc : (c : Int) < R * W) : (c < 40 ∧ 0 ≤ c_f f c 0 ∧ c_f f c 0 < D ∧ D ≤ 4) ∧ (2 ≤ d_f f (c_f f c 0).toNat ∧ d_f f (c_f f c 0).toNat ≤ 40) ∧ (0 ≤ c_f f c 1 ∧ c_f f c 1 < d_f f (c_f f c 0).toNat) ∧ (0 ≤ c_f f c 2 ∧ c_f f c 2 < d_f f (c_f f c 0).toNat) ∧ (0 ≤ c_f f c 3 ∧ c_f f c 3 < d_f f (c_f f c 0).toNat) ∧ (0 ≤ c_f f c 4 ∧ c_f f c 4 ≤ 9) := by
  obtain ⟨f0, f1, f3, _, _, g, hd, hcc⟩ := hf
  obtain ⟨a1, _, a3⟩ := hcc c (by omega)
  have a3 := a3 hD
  have a4 := hd (c_f f c 0).toNat (by omega)
  omega
def onI (b g F : Int) : Int := if b ≤ g then g - b else g - b + F
theorem onI_d (b g F : Int) : (b ≤ g ∧ onI b g F = g - b) ∨ (g < b ∧ onI b g F = g - b + F) := by
  unfold onI
  by_cases h : b ≤ g
  · rw [if_pos h]
    exact Or.inl ⟨h, rfl⟩
  · rw [if_neg h]
    exact Or.inr ⟨by omega, rfl⟩
/-- the flap is the nearest good one, or there is none -/
def NR (good : Nat → Prop) (b F : Int) (r : Int32) : Prop := (r = -1 ∧ ∀ g : Nat, (g : Int) < F → ¬ good g) ∨ (0 ≤ r.toInt ∧ r.toInt < F ∧ good r.toInt.toNat ∧ ∀ g : Nat, (g : Int) < F → good g → onI b r.toInt F ≤ onI b (g : Int) F)
theorem NR_u {good : Nat → Prop} {b F : Int} {r q : Int32} (hb : 0 ≤ b ∧ b < F) (h1 : NR good b F r) (h2 : NR good b F q) : r = q := by
  rcases h1 with ⟨a, b1⟩ | ⟨a1, a2, a3, a4⟩
  · rcases h2 with ⟨c, _⟩ | ⟨c1, c2, c3, _⟩
    · rw [a, c]
    · exact absurd c3 (b1 q.toInt.toNat (by omega))
  · rcases h2 with ⟨_, d⟩ | ⟨c1, c2, c3, c4⟩
    · exact absurd a3 (d r.toInt.toNat (by omega))
    · have e1 := a4 q.toInt.toNat (by omega) c3
      have e2 := c4 r.toInt.toNat (by omega) a3
      have k1 : ((q.toInt.toNat : Nat) : Int) = q.toInt := by omega
      have k2 : ((r.toInt.toNat : Nat) : Int) = r.toInt := by omega
      rw [k1] at e1
      rw [k2] at e2
      have o1 := onI_d b r.toInt F
      have o2 := onI_d b q.toInt F
      exact Int32.toInt_inj.mp (by omega)
def gd6 (s : Bd) (d : Nat) (w : Int64) (sg : Int32) (g : Nat) : Prop := s.2.1 2 (40 * d + g) = sg ∧ bs_at w g = false
theorem e0_near_L {s : Bd} {P6 : Int32 → Prop} {d : Nat} {z1 z2 z3 z4 z5 : Int32} {w : Int64} {b : Int} (hd : d < 4) (h4 : 2 ≤ z4.toInt ∧ z4.toInt ≤ 40) (h5 : z5.toInt = 40 * (d : Int)) (hb : 0 ≤ b ∧ b < z4.toInt) : ∀ (n : Nat) (z8 z9 : Int32), 0 ≤ z8.toInt → z8.toInt < z4.toInt → 0 ≤ z9.toInt → z9.toInt ≤ z4.toInt → (z9.toInt < z4.toInt → onI b z8.toInt z4.toInt = z9.toInt) → (∀ g : Nat, (g : Int) < z4.toInt → onI b (g : Int) z4.toInt < z9.toInt → ¬ gd6 s d w z2 g) → wp_X0_nearest_L60 s P6 (fun z1 z2 z3 z4 z5 w6 z8 z9 => P6 (-1)) n z1 z2 z3 z4 z5 (w ^^^ (-1)) z8 z9 → ∃ r, P6 r ∧ NR (gd6 s d w z2) b z4.toInt r := by
  have e1 : (1 : Int32).toInt = 1 := rfl
  have e0 : (0 : Int32).toInt = 0 := rfl
  intro n
  induction n with
  | zero =>
    intro z8 z9 _ _ _ _ _ _ h
    exact (show False from h).elim
  | succ n ih =>
    intro z8 z9 a1 a2 a3 a4 a5 a6 h
    unfold wp_X0_nearest_L60 at h
    by_cases c : z4 ≤ z9
    · have c1 := q_le c
      refine ⟨-1, h.1 c, Or.inl ⟨rfl, fun g hg => a6 g hg ?_⟩⟩
      have := onI_d b (g : Int) z4.toInt
      omega
    · have c1 := q_nle c
      have h := (h.2 c).2
      have a5 := a5 (by omega)
      have s1 := nw (tq_addr e1 z8) (by omega)
      have s2 := nw (tq_addr e1 z9) (by omega)
      have s3 := nw (tq_add z5 z8) (by omega)
      have ex : Int32.toNatClampNeg (z5 + z8) = 40 * d + z8.toInt.toNat := by
        rw [tn_i]
        omega
      rw [ex] at h
      have o8 := onI_d b z8.toInt z4.toInt
      have step : ¬ gd6 s d w z2 z8.toInt.toNat → ((z4 ≤ (z8 + 1) → wp_X0_nearest_L60 s P6 (fun z1 z2 z3 z4 z5 w6 z8 z9 => P6 (-1)) n z1 z2 z3 z4 z5 (w ^^^ (-1)) 0 (z9 + 1)) ∧ (¬ z4 ≤ (z8 + 1) → wp_X0_nearest_L60 s P6 (fun z1 z2 z3 z4 z5 w6 z8 z9 => P6 (-1)) n z1 z2 z3 z4 z5 (w ^^^ (-1)) (z8 + 1) (z9 + 1))) → ∃ r, P6 r ∧ NR (gd6 s d w z2) b z4.toInt r := by
        intro ng h
        have nx : ∀ g : Nat, (g : Int) < z4.toInt → onI b (g : Int) z4.toInt < (z9 + 1).toInt → ¬ gd6 s d w z2 g := fun g hg ho => by
          by_cases q : onI b (g : Int) z4.toInt < z9.toInt
          · exact a6 g hg q
          · have og := onI_d b (g : Int) z4.toInt
            have : g = z8.toInt.toNat := by omega
            rw [this]
            exact ng
        by_cases q : z4 ≤ z8 + 1
        · have q1 := q_le q
          refine ih 0 (z9 + 1) (by omega) (by omega) (by omega) (by omega) (fun g => ?_) nx (h.1 q)
          have := onI_d b (0 : Int32).toInt z4.toInt
          omega
        · have q1 := q_nle q
          refine ih (z8 + 1) (z9 + 1) (by omega) (by omega) (by omega) (by omega) (fun g => ?_) nx (h.2 q)
          have := onI_d b (z8 + 1).toInt z4.toInt
          omega
      by_cases e : s.2.1 2 (40 * d + z8.toInt.toNat) = z2
      · have h := h.2 e
        have bt := bs_wt (w := w ^^^ (-1)) (x := z8) (by omega)
        rw [bs_not (by omega)] at bt
        by_cases f : lg_cmp (((w ^^^ (-1)) >>> (Int32.toInt64 z8 &&& 63)) &&& 1) 0 = 0
        · refine step (fun g => ?_) (h.1 f)
          have := bt.mp f
          rw [g.2] at this
          exact absurd this (by decide)
        · refine ⟨z8, h.2 f, Or.inr ⟨a1, a2, ⟨e, ?_⟩, fun g hg gg => ?_⟩⟩
          · cases q : bs_at w z8.toInt.toNat with
            | false => rfl
            | true =>
              rw [q] at bt
              exact absurd (bt.mpr rfl) f
          · by_cases q : onI b (g : Int) z4.toInt < z9.toInt
            · exact absurd gg (a6 g hg q)
            · omega
      · exact step (fun g => e g.1) (h.1 e)
def gd7 (f : Nat → Int64) (d : Nat) (c : Nat) (sg : Int32) (g : Nat) : Prop := Int64.toInt32 (f (8 + 42 * d + 2 + g)) = sg ∧ bs_at (f (176 + 8 * c + 7)) g = false
theorem e7_near_L {m : Md} {P7 : Int32 → Prop} {z1 z2 : Int32} {F b : Int} {d : Nat} (hx : 0 ≤ z1.toInt ∧ z1.toInt < 40) (hd : d < 4) (e0 : (Int64.toInt32 (m.2.2.1 0 (176 + 8 * z1.toInt.toNat + 0))).toInt = (d : Int)) (eF : (Int64.toInt32 (m.2.2.1 0 (8 + 42 * d + 1))).toInt = F) (hF : 2 ≤ F ∧ F ≤ 40) (eb : (Int64.toInt32 (m.2.2.1 0 (176 + 8 * z1.toInt.toNat + 2))).toInt = b) (hb : 0 ≤ b ∧ b < F) : ∀ (n : Nat) (z3 z4 : Int32), 0 ≤ z4.toInt → z4.toInt ≤ F → ((z3 = -1 ∧ ∀ g : Nat, (g : Int) < z4.toInt → ¬ gd7 (m.2.2.1 0) d z1.toInt.toNat z2 g) ∨ (0 ≤ z3.toInt ∧ z3.toInt < z4.toInt ∧ gd7 (m.2.2.1 0) d z1.toInt.toNat z2 z3.toInt.toNat ∧ ∀ g : Nat, (g : Int) < z4.toInt → gd7 (m.2.2.1 0) d z1.toInt.toNat z2 g → onI b z3.toInt F ≤ onI b (g : Int) F)) → wp_X7_flapFor_L5 m P7 (fun z1 z2 z3 z4 => P7 z3) n z1 z2 z3 z4 → ∃ r, P7 r ∧ NR (gd7 (m.2.2.1 0) d z1.toInt.toNat z2) b F r := by
  have e1 : (1 : Int32).toInt = 1 := rfl
  have m1 : (-1 : Int32).toInt = -1 := rfl
  have dn : (Int64.toInt32 (m.2.2.1 0 (176 + 8 * z1.toInt.toNat + 0))).toInt.toNat = d := by omega
  have fl : ∀ {Q : Int32 → Prop}, wp_X7_flaps Q m z1 → Q (Int64.toInt32 (m.2.2.1 0 (8 + 42 * d + 1))) := by
    intro Q h
    unfold wp_X7_flaps at h
    have h := e7_flapsOf (by omega) (by omega) (e7_of (i := 0) hx.1 hx.2 rfl (by decide) h)
    rw [dn] at h
    exact h
  intro n
  induction n with
  | zero =>
    intro z3 z4 _ _ _ h
    exact (show False from h).elim
  | succ n ih =>
    intro z3 z4 h0 h1 hI h
    unfold wp_X7_flapFor_L5 at h
    have h := fl h
    by_cases c : Int64.toInt32 (m.2.2.1 0 (8 + 42 * d + 1)) ≤ z4
    · have c1 := q_le c
      have ez : z4.toInt = F := by omega
      rw [ez] at hI
      exact ⟨z3, h.1 c, hI⟩
    · have c1 := q_nle c
      have s4 := nw (tq_addr e1 z4) (by omega)
      have h := e7_signOf (by omega) (by omega) h0 (by omega) (e7_of (i := 0) hx.1 hx.2 rfl (by decide) (h.2 c))
      rw [dn] at h
      have on : ¬ gd7 (m.2.2.1 0) d z1.toInt.toNat z2 z4.toInt.toNat → wp_X7_flapFor_L5 m P7 (fun z1 z2 z3 z4 => P7 z3) n z1 z2 z3 (z4 + 1) → ∃ r, P7 r ∧ NR (gd7 (m.2.2.1 0) d z1.toInt.toNat z2) b F r := by
        intro ng h
        refine ih z3 (z4 + 1) (by omega) (by omega) ?_ h
        have up : ∀ g : Nat, (g : Int) < (z4 + 1).toInt → gd7 (m.2.2.1 0) d z1.toInt.toNat z2 g → (g : Int) < z4.toInt := fun g hg gg => by
          by_cases q : (g : Int) < z4.toInt
          · exact q
          · have : g = z4.toInt.toNat := by omega
            rw [this] at gg
            exact absurd gg ng
        rcases hI with ⟨a, b1⟩ | ⟨a1, a2, a3, a4⟩
        · exact Or.inl ⟨a, fun g hg gg => b1 g (up g hg gg) gg⟩
        · exact Or.inr ⟨a1, by omega, a3, fun g hg gg => a4 g (up g hg gg) gg⟩
      by_cases e : Int64.toInt32 (m.2.2.1 0 (8 + 42 * d + 2 + z4.toInt.toNat)) = z2
      · have h := e7_isIn (by omega) (e7_wornOf hx.1 hx.2 (h.2 e))
        rcases h with ⟨h, w⟩ | ⟨h, w⟩
        · refine on (fun g => ?_) (h.2 (by decide))
          rw [g.2] at w
          exact absurd w (by decide)
        · have h := h.1 rfl
          have gg : gd7 (m.2.2.1 0) d z1.toInt.toNat z2 z4.toInt.toNat := ⟨e, w⟩
          have k4 : ((z4.toInt.toNat : Nat) : Int) = z4.toInt := by omega
          by_cases q : z3 = -1
          · refine ih z4 (z4 + 1) (by omega) (by omega) (Or.inr ⟨h0, by omega, gg, fun g hg g2 => ?_⟩) (h.1 q)
            rcases hI with ⟨a, b1⟩ | ⟨a1, _⟩
            · by_cases v : (g : Int) < z4.toInt
              · exact absurd g2 (b1 g v)
              · have : (g : Int) = z4.toInt := by omega
                rw [this]
                exact Int.le_refl _
            · rw [q] at a1
              omega
          · rcases hI with ⟨a, _⟩ | ⟨a1, a2, a3, a4⟩
            · exact absurd a q
            · have h := fl (e7_of (i := 2) hx.1 hx.2 rfl (by decide) (h.2 q))
              obtain ⟨r19, h, o19⟩ := e7_on (by omega) (by omega) (by omega) h
              have h := fl (e7_of (i := 2) hx.1 hx.2 rfl (by decide) h)
              obtain ⟨r25, h, o25⟩ := e7_on (by omega) (by omega) (by omega) h
              have u4 := onI_d b z4.toInt F
              have u3 := onI_d b z3.toInt F
              by_cases v : r25 ≤ r19
              · have v1 := q_le v
                refine ih z3 (z4 + 1) (by omega) (by omega) (Or.inr ⟨a1, by omega, a3, fun g hg g2 => ?_⟩) (h.1 v)
                by_cases y : (g : Int) < z4.toInt
                · exact a4 g y g2
                · have : (g : Int) = z4.toInt := by omega
                  rw [this]
                  omega
              · have v1 := q_nle v
                refine ih z4 (z4 + 1) (by omega) (by omega) (Or.inr ⟨h0, by omega, gg, fun g hg g2 => ?_⟩) (h.2 v)
                by_cases y : (g : Int) < z4.toInt
                · have := a4 g y g2
                  omega
                · have : (g : Int) = z4.toInt := by omega
                  rw [this]
                  exact Int.le_refl _
      · exact on (fun g => e g.1) (h.1 e)
/-- which flap a cell would want for a sign, by the row f -/
def NV (f : Nat → Int64) (c : Nat) (sg : Int32) (r : Int32) : Prop := NR (gd7 f (c_f f c 0).toNat c sg) (c_f f c 2) (d_f f (c_f f c 0).toNat) r
theorem NV_u {R W D : Int} {f : Nat → Int64} {c : Nat} {sg r q : Int32} (hf : rw_ok R W D f) (hD : 0 < D) (hc : (c : Int) < R * W) (h1 : NV f c sg r) (h2 : NV f c sg q) : r = q := by
  obtain ⟨q0, q1, q2, q3, q4, q5⟩ := cl_f hf hD hc
  exact NR_u q3 h1 h2
theorem NV_b {f : Nat → Int64} {c : Nat} {sg r : Int32} (h : NV f c sg r) : r = -1 ∨ (¬ r = -1 ∧ 0 ≤ r.toInt ∧ r.toInt < d_f f (c_f f c 0).toNat) := by
  rcases h with ⟨a, _⟩ | ⟨a1, a2, _⟩
  · exact Or.inl a
  · refine Or.inr ⟨fun g => ?_, a1, a2⟩
    rw [g] at a1
    exact absurd a1 (by decide)
/-- drums of the class as in the row -/
def RDr (s : Bd) (f : Nat → Int64) : Prop := s.1 3 = Int64.toInt32 (f 3) ∧ ((f 3).toInt ≤ 4 ∧ ((f 0).toInt ≤ 0 ∨ 0 < (f 1).toInt)) ∧ ∀ d : Nat, (d : Int) < (f 3).toInt → DG f d ∧ s.2.1 0 d = Int64.toInt32 (f (8 + 42 * d)) ∧ s.2.1 1 d = Int64.toInt32 (f (8 + 42 * d + 1)) ∧ ∀ k : Nat, (k : Int) < d_f f d → s.2.1 2 (40 * d + k) = Int64.toInt32 (f (8 + 42 * d + 2 + k))
theorem RB_d {s : Bd} {f : Nat → Int64} (h : RB s f) : RDr s f := ⟨h.1.2.2.2, h.2.1⟩
theorem near6 {P6 : Int32 → Prop} {s : Bd} {f : Nat → Int64} {x sg : Int32} {R W D : Int} (hf : rw_ok R W D f) (hD : 0 < D) (hB : RDr s f) (hx : 0 ≤ x.toInt) (hc : x.toInt < R * W) (x3 : s.2.1 3 x.toInt.toNat = Int64.toInt32 (f (176 + 8 * x.toInt.toNat + 0))) (x5 : s.2.1 5 x.toInt.toNat = Int64.toInt32 (f (176 + 8 * x.toInt.toNat + 2))) (c2 : s.2.2.1 x.toInt.toNat = f (176 + 8 * x.toInt.toNat + 7)) (h6 : wp_X0_nearest P6 s x sg) : ∃ r, P6 r ∧ NV f x.toInt.toNat sg r := by
  have k1 : ((x.toInt.toNat : Nat) : Int) = x.toInt := by omega
  obtain ⟨q0, q1, q2, q3, q4, q5⟩ := cl_f hf hD (c := x.toInt.toNat) (by omega)
  unfold NV
  have tx : Int32.toNatClampNeg x = x.toInt.toNat := rfl
  generalize x.toInt.toNat = c at *
  obtain ⟨b0, b00, b1⟩ := hB
  have f3 := hf.2.2.1
  generalize hdn : (c_f f c 0).toNat = d at *
  obtain ⟨_, d0, d1, d2⟩ := b1 d (by omega)
  have t0 : (Int64.toInt32 (f (176 + 8 * c + 0))).toInt = (d : Int) := by
    rw [t32 (by unfold c_f at q0; omega)]
    unfold c_f at hdn q0
    omega
  have tF : (Int64.toInt32 (f (8 + 42 * d + 1))).toInt = d_f f d := by
    rw [t32 (by unfold d_f at q1; omega)]
    rfl
  have tb : (Int64.toInt32 (f (176 + 8 * c + 2))).toInt = c_f f c 2 := by
    rw [t32 (by unfold c_f at q3; omega)]
    rfl
  have e0 : (0 : Int32).toInt = 0 := rfl
  have e40 : (40 : Int32).toInt = 40 := rfl
  unfold wp_X0_nearest at h6
  rw [tx, x3, x5, c2, b0] at h6
  have t3 : (Int64.toInt32 (f 3)).toInt = D := by
    rw [t32 (by omega)]
    exact f3
  have h6 := h6.2.2 (fun g => by have := q_lt g; omega)
  have h6 := (h6.2 (fun g => by have := q_le g; omega)).2.2.2
  obtain ⟨n6, h6⟩ := h6
  have td : Int32.toNatClampNeg (Int64.toInt32 (f (176 + 8 * c + 0))) = d := by
    rw [tn_i]
    omega
  rw [td, d1] at h6
  have g5 := nw (tq_mulr e40 (Int64.toInt32 (f (176 + 8 * c + 0)))) (by omega)
  obtain ⟨r6, p6, n6⟩ := e0_near_L (d := d) (b := c_f f c 2) (by omega) (by omega) (by omega) (by omega) n6 _ 0 (by omega) (by omega) (by omega) (by omega) (fun _ => by
    have := onI_d (c_f f c 2) (Int64.toInt32 (f (176 + 8 * c + 2))).toInt (Int64.toInt32 (f (8 + 42 * d + 1))).toInt
    omega) (fun g hg ho => by
    have := onI_d (c_f f c 2) (g : Int) (Int64.toInt32 (f (8 + 42 * d + 1))).toInt
    omega) h6
  have same : ∀ g : Nat, (g : Int) < d_f f d → (gd6 s d (f (176 + 8 * c + 7)) sg g ↔ gd7 f d c sg g) := fun g hg => by
    unfold gd6 gd7
    rw [d2 g hg]
  rw [tF] at n6
  refine ⟨r6, p6, ?_⟩
  rcases n6 with ⟨a, b⟩ | ⟨a1, a2, a3, a4⟩
  · exact Or.inl ⟨a, fun g hg gg => b g hg ((same g hg).mpr gg)⟩
  · exact Or.inr ⟨a1, a2, (same _ (by omega)).mp a3, fun g hg gg => a4 g hg ((same g hg).mpr gg)⟩
/-- the rows f and g have the same drums, and of this cell the same drum, belief, worn flaps -/
def RS (f g : Nat → Int64) (c : Nat) : Prop := (∀ i : Nat, i < 176 → g i = f i) ∧ g (176 + 8 * c + 0) = f (176 + 8 * c + 0) ∧ g (176 + 8 * c + 2) = f (176 + 8 * c + 2) ∧ g (176 + 8 * c + 7) = f (176 + 8 * c + 7)
theorem RS_rf (f : Nat → Int64) (c : Nat) : RS f f c := ⟨fun _ _ => rfl, rfl, rfl, rfl⟩
theorem near7 {P7 : Int32 → Prop} {m : Md} {f : Nat → Int64} {x sg : Int32} {R W D : Int} (hf : rw_ok R W D f) (hD : 0 < D) (hS : RS f (m.2.2.1 0) x.toInt.toNat) (hx : 0 ≤ x.toInt) (hc : x.toInt < R * W) (h7 : wp_X7_flapFor P7 m x sg) : ∃ r, P7 r ∧ NV f x.toInt.toNat sg r := by
  have k1 : ((x.toInt.toNat : Nat) : Int) = x.toInt := by omega
  obtain ⟨q0, q1, q2, q3, q4, q5⟩ := cl_f hf hD (c := x.toInt.toNat) (by omega)
  unfold NV
  generalize hdn : (c_f f x.toInt.toNat 0).toNat = d at *
  have t0 : (Int64.toInt32 (m.2.2.1 0 (176 + 8 * x.toInt.toNat + 0))).toInt = (d : Int) := by
    rw [hS.2.1, t32 (by unfold c_f at q0; omega)]
    unfold c_f at hdn q0
    omega
  have tF : (Int64.toInt32 (m.2.2.1 0 (8 + 42 * d + 1))).toInt = d_f f d := by
    rw [hS.1 _ (by omega), t32 (by unfold d_f at q1; omega)]
    rfl
  have tb : (Int64.toInt32 (m.2.2.1 0 (176 + 8 * x.toInt.toNat + 2))).toInt = c_f f x.toInt.toNat 2 := by
    rw [hS.2.2.1, t32 (by unfold c_f at q3; omega)]
    rfl
  have e0 : (0 : Int32).toInt = 0 := rfl
  unfold wp_X7_flapFor at h7
  obtain ⟨n7, h7⟩ := h7
  obtain ⟨r7, p7, n7⟩ := e7_near_L (b := c_f f x.toInt.toNat 2) (by omega) (by omega) t0 tF (by omega) tb (by omega) n7 (-1) 0 (by omega) (by omega) (Or.inl ⟨rfl, fun g hg => by omega⟩) h7
  have same : ∀ g : Nat, (g : Int) < d_f f d → (gd7 (m.2.2.1 0) d x.toInt.toNat sg g ↔ gd7 f d x.toInt.toNat sg g) := fun g hg => by
    unfold gd7
    rw [hS.1 _ (by omega), hS.2.2.2]
  refine ⟨r7, p7, ?_⟩
  rcases n7 with ⟨a, b⟩ | ⟨a1, a2, a3, a4⟩
  · exact Or.inl ⟨a, fun g hg gg => b g hg ((same g hg).mpr gg)⟩
  · exact Or.inr ⟨a1, a2, (same _ (by omega)).mp a3, fun g hg gg => a4 g hg ((same g hg).mpr gg)⟩
