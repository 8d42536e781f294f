/-! bitCount, wear, cell. -/
def w1 (y : Int64) : Int64 := y - ((((y).toUInt64 >>> ((Int32.toInt64 (1 : Int32)).toUInt64 &&& Int64.toUInt64 63)).toInt64) &&& 6148914691236517205)
def w2 (a : Int64) : Int64 := (a &&& 3689348814741910323) + ((((a).toUInt64 >>> ((Int32.toInt64 (2 : Int32)).toUInt64 &&& Int64.toUInt64 63)).toInt64) &&& 3689348814741910323)
def w3 (b : Int64) : Int64 := (b + (((b).toUInt64 >>> ((Int32.toInt64 (4 : Int32)).toUInt64 &&& Int64.toUInt64 63)).toInt64)) &&& 1085102592571150095
def w4 (c : Int64) : Int64 := c + (((c).toUInt64 >>> ((Int32.toInt64 (8 : Int32)).toUInt64 &&& Int64.toUInt64 63)).toInt64)
def w5 (d : Int64) : Int64 := d + (((d).toUInt64 >>> ((Int32.toInt64 (16 : Int32)).toUInt64 &&& Int64.toUInt64 63)).toInt64)
def w6 (e : Int64) : Int64 := e + (((e).toUInt64 >>> ((Int32.toInt64 (32 : Int32)).toUInt64 &&& Int64.toUInt64 63)).toInt64)
theorem lo127 (F : Int64) : (Int64.toInt32 F &&& 127).toInt = ((nn F % 128 : Nat) : Int) := by
  have t : (Int64.toInt32 F &&& 127).toBitVec.toNat = nn F % 128 := by
    have a : (Int64.toInt32 F &&& 127).toBitVec.toNat = (Int64.toInt32 F).toBitVec.toNat &&& 127 := rfl
    have b : (Int64.toInt32 F).toBitVec.toNat = nn F % 2 ^ 32 := by
      show (F.toBitVec.signExtend 32).toNat = _
      rw [BitVec.signExtend_eq_setWidth_of_le _ (by decide), BitVec.toNat_setWidth]
      rfl
    have e : (127 : Nat) = 2 ^ 7 - 1 := by decide
    rw [a, b, e, Nat.and_two_pow_sub_one_eq_mod]
    have : (2 : Nat) ^ 32 = 4294967296 := by decide
    have : (2 : Nat) ^ 7 = 128 := by decide
    omega
  have i : (Int64.toInt32 F &&& 127).toInt = (Int64.toInt32 F &&& 127).toBitVec.toInt := rfl
  have p : (2 : Nat) ^ 32 = 4294967296 := by decide
  have l : 2 * (Int64.toInt32 F &&& 127).toBitVec.toNat < 2 ^ 32 := by
    rw [t, p]
    omega
  rw [i, BitVec.toInt_eq_toNat_of_lt l, t]
theorem e_bitCount {P : Int32 → Prop} {y : Int64} (h : wp_J13_bitCount_95d88 P y) : ∃ r, P r ∧ r.toInt = (ct (bs_at y) 64 : Int) := by
  unfold wp_J13_bitCount_95d88 at h
  have h : P (Int64.toInt32 (w6 (w5 (w4 (w3 (w2 (w1 y)))))) &&& 127) := h
  refine ⟨_, h, ?_⟩
  rw [lo127]
  have Y := nn_lt y
  have e8 : (256 : Nat) ^ 8 = 18446744073709551616 := by decide
  have db : dg (byt (nn y)) 8 = nn y := by
    have q := byt_dg (Y := nn y) 8 0
    have e : (fun i => byt (nn y) (0 + i)) = byt (nn y) := funext (fun i => by rw [Nat.zero_add])
    rw [e, e8, Nat.mul_zero, Nat.pow_zero, Nat.div_one, Nat.mod_eq_of_lt Y] at q
    exact q
  have hb : ∀ i, byt (nn y) i < 256 := fun i => Nat.mod_lt _ (by decide)
  have s1 : nn ((y.toUInt64 >>> ((Int32.toInt64 (1 : Int32)).toUInt64 &&& Int64.toUInt64 63)).toInt64) = nn y / 2 ^ 1 := nn_sh (by decide) (by decide)
  have m5 : nn 6148914691236517205 = 6148914691236517205 := by decide
  have m3 : nn 3689348814741910323 = 3689348814741910323 := by decide
  have m0 : nn 1085102592571150095 = 1085102592571150095 := by decide
  obtain ⟨X1, hX1⟩ : ∃ X1, X1 = dg (byt (nn y)) 8 - ((dg (byt (nn y)) 8 / 2) &&& 6148914691236517205) := ⟨_, rfl⟩
  obtain ⟨X2, hX2⟩ : ∃ X2, X2 = (X1 &&& 3689348814741910323) + ((X1 / 4) &&& 3689348814741910323) := ⟨_, rfl⟩
  obtain ⟨k1, k2, k3, k4⟩ := swar hb hX1 hX2
  rw [db] at hX1 k2
  have v1 : nn (w1 y) = X1 := by
    unfold w1
    rw [nn_sub, nn_and, s1, m5]
    have : (2 : Nat) ^ 1 = 2 := by decide
    rw [this, hX1]
    omega
  have v2 : nn (w2 (w1 y)) = X2 := by
    unfold w2
    have s2 : nn (((w1 y).toUInt64 >>> ((Int32.toInt64 (2 : Int32)).toUInt64 &&& Int64.toUInt64 63)).toInt64) = nn (w1 y) / 2 ^ 2 := nn_sh (by decide) (by decide)
    have : (2 : Nat) ^ 2 = 4 := by decide
    rw [nn_add, nn_and, nn_and, s2, m3, v1, this, ← hX2]
    omega
  have v3 : nn (w3 (w2 (w1 y))) = dg (fun i => pc8 (byt (nn y) i)) 8 := by
    unfold w3
    have s4 : nn (((w2 (w1 y)).toUInt64 >>> ((Int32.toInt64 (4 : Int32)).toUInt64 &&& Int64.toUInt64 63)).toInt64) = nn (w2 (w1 y)) / 2 ^ 4 := nn_sh (by decide) (by decide)
    have : (2 : Nat) ^ 4 = 16 := by decide
    rw [nn_and, nn_add, s4, m0, v2, this, Nat.mod_eq_of_lt (by omega)]
    exact k1
  obtain ⟨Dd, hD⟩ : ∃ D, D = nn (w3 (w2 (w1 y))) + nn (w3 (w2 (w1 y))) / 256 := ⟨_, rfl⟩
  obtain ⟨E, hE⟩ : ∃ E, E = Dd + Dd / 65536 := ⟨_, rfl⟩
  obtain ⟨F, hF⟩ : ∃ F, F = E + E / 4294967296 := ⟨_, rfl⟩
  obtain ⟨f1, f2, f3, f4⟩ := fold8 (c := fun i => pc8 (byt (nn y) i)) (fun i => (g_all _ (hb i)).2.2.2.2.2) v3 hD hE hF
  have v4 : nn (w4 (w3 (w2 (w1 y)))) = Dd := by
    unfold w4
    have s8 : nn (((w3 (w2 (w1 y))).toUInt64 >>> ((Int32.toInt64 (8 : Int32)).toUInt64 &&& Int64.toUInt64 63)).toInt64) = nn (w3 (w2 (w1 y))) / 2 ^ 8 := nn_sh (by decide) (by decide)
    have : (2 : Nat) ^ 8 = 256 := by decide
    rw [nn_add, s8, this, ← hD, Nat.mod_eq_of_lt f4]
  have v5 : nn (w5 (w4 (w3 (w2 (w1 y))))) = E := by
    unfold w5
    have s16 : nn (((w4 (w3 (w2 (w1 y)))).toUInt64 >>> ((Int32.toInt64 (16 : Int32)).toUInt64 &&& Int64.toUInt64 63)).toInt64) = nn (w4 (w3 (w2 (w1 y)))) / 2 ^ 16 := nn_sh (by decide) (by decide)
    have : (2 : Nat) ^ 16 = 65536 := by decide
    rw [nn_add, s16, this, v4, ← hE, Nat.mod_eq_of_lt f3]
  have v6 : nn (w6 (w5 (w4 (w3 (w2 (w1 y)))))) = F := by
    unfold w6
    have s32 : nn (((w5 (w4 (w3 (w2 (w1 y))))).toUInt64 >>> ((Int32.toInt64 (32 : Int32)).toUInt64 &&& Int64.toUInt64 63)).toInt64) = nn (w5 (w4 (w3 (w2 (w1 y))))) / 2 ^ 32 := nn_sh (by decide) (by decide)
    have : (2 : Nat) ^ 32 = 4294967296 := by decide
    rw [nn_add, s32, this, v5, ← hF, Nat.mod_eq_of_lt f2]
  rw [v6, f1]
  have eb : bs_at y = fun k => (nn y).testBit k := rfl
  rw [eb]
  have c0 := ct_byt (Y := nn y) 0
  have c1 := ct_byt (Y := nn y) 1
  have c2 := ct_byt (Y := nn y) 2
  have c3 := ct_byt (Y := nn y) 3
  have c4 := ct_byt (Y := nn y) 4
  have c5 := ct_byt (Y := nn y) 5
  have c6 := ct_byt (Y := nn y) 6
  have c7 := ct_byt (Y := nn y) 7
  have z : ct (fun k => (nn y).testBit k) (8 * 0) = 0 := rfl
  have j1 : 8 * 0 + 8 = 8 * 1 := rfl
  have j2 : 8 * 1 + 8 = 8 * 2 := rfl
  have j3 : 8 * 2 + 8 = 8 * 3 := rfl
  have j4 : 8 * 3 + 8 = 8 * 4 := rfl
  have j5 : 8 * 4 + 8 = 8 * 5 := rfl
  have j6 : 8 * 5 + 8 = 8 * 6 := rfl
  have j7 : 8 * 6 + 8 = 8 * 7 := rfl
  have j8 : 8 * 7 + 8 = 64 := rfl
  rw [j1, z] at c0
  rw [j2] at c1
  rw [j3] at c2
  rw [j4] at c3
  rw [j5] at c4
  rw [j6] at c5
  rw [j7] at c6
  rw [j8] at c7
  omega
theorem e7_bits {P : Int32 → Prop} {y : Int64} (h : wp_X7_bits P y) : ∃ r, P r ∧ r.toInt = (ct (bs_at y) 64 : Int) := by
  have e1 : (1 : Int32).toInt = 1 := rfl
  have e64 : (64 : Int32).toInt = 64 := rfl
  obtain ⟨n, h⟩ := h
  have L : ∀ (n : Nat) (z2 z3 : Int32), 0 ≤ z3.toInt → z3.toInt ≤ 64 → z2.toInt = (ct (bs_at y) z3.toInt.toNat : Int) → wp_X7_bits_L4 P (fun _ z _ => P z) n y z2 z3 → ∃ r, P r ∧ r.toInt = (ct (bs_at y) 64 : Int) := by
    intro n
    induction n with
    | zero =>
      intro z2 z3 _ _ _ h
      exact (show False from h).elim
    | succ n ih =>
      intro z2 z3 h0 h1 hz h
      unfold wp_X7_bits_L4 at h
      by_cases c : 64 ≤ z3
      · have := q_le c
        have ez : z3.toInt.toNat = 64 := by omega
        rw [ez] at hz
        exact ⟨z2, h.1 c, hz⟩
      · have := q_nle c
        have s := nw (tq_addr e1 z3) (by omega)
        have ss : (z3 + 1).toInt.toNat = z3.toInt.toNat + 1 := by omega
        have cl := ct_le (bs_at y) z3.toInt.toNat
        have st : ct (bs_at y) (z3.toInt.toNat + 1) = ct (bs_at y) z3.toInt.toNat + (if bs_at y z3.toInt.toNat then 1 else 0) := rfl
        rcases e7_isIn (by omega) (h.2 c) with ⟨h, b⟩ | ⟨h, b⟩
        · have s2 := nw (tq_addr e1 z2) (by omega)
          rw [if_pos b] at st
          exact ih (z2 + 1) (z3 + 1) (by omega) (by omega) (by rw [ss, st]; omega) (h.2 (by decide))
        · rw [b, if_neg (by decide)] at st
          have h := h.1 rfl
          rw [Int32.add_zero] at h
          exact ih z2 (z3 + 1) (by omega) (by omega) (by rw [ss, st]; omega) h
  exact L n 0 0 (by decide) (by decide) rfl h
theorem CN_eq {r6 r7 : Int32} (h : CN r6 r7) : r6 = r7 := by
  rcases h with h | ⟨y, h6, h7⟩
  · exact h
  · obtain ⟨a, e6, f6⟩ := e_bitCount h6
    obtain ⟨b, e7, f7⟩ := e7_bits h7
    rw [e6, e7]
    exact Int32.toInt_inj.mp (f6.trans f7.symm)
theorem sq_cell {P6 P7 : Int32 → Prop} {s2 : Bd} {m : Md} {x1 x2 : Int32} {N R W D : Int} (hB : RB s2 (m.2.2.1 0)) (hM : mb N R W D m) (hs : R ≤ 0 ∨ 0 < D) (h6 : wp_X6_cell P6 s2 x1 x2) (h7 : wp_X7_cell P7 m x1 x2) : ∃ r, P6 r ∧ P7 r := by
  have hf := hM.2.2.2.2.1
  have hR := hf.2.2.2.2.2.1
  have rc := RB_cells hf hB
  unfold wp_X6_cell at h6
  unfold wp_X7_cell at h7
  rcases e0_hasCell rc.2.2.1 h6 with ⟨h6, g1, g2⟩ | ⟨h6, g⟩
  · rcases e7_isCell hf h7 with ⟨h7, _, _⟩ | ⟨_, g⟩
    · have hD : 0 < D := by omega
      have h6 := h6.1 (by decide)
      have h7 := h7.1 (by decide)
      have at_ := RB_x (c := x1.toInt.toNat) hf hB (by omega)
      rw [tn_i] at h6
      by_cases c0 : x2 = 0
      · have h6 := (h6.1 c0).2
        have h7 := e7_of (i := 0) g1 (by omega) (by rw [c0]; rfl) (by decide) (h7.1 c0)
        rw [at_.1] at h6
        exact ⟨_, h6, h7⟩
      have h6 := h6.2 c0
      have h7 := h7.2 c0
      by_cases c1 : x2 = 1
      · have h6 := (h6.1 c1).2
        have h7 := e7_of (i := 1) g1 (by omega) (by rw [c1]; rfl) (by decide) (h7.1 c1)
        rw [at_.2.1] at h6
        exact ⟨_, h6, h7⟩
      have h6 := h6.2 c1
      have h7 := h7.2 c1
      by_cases c2 : x2 = 2
      · have h6 := (h6.1 c2).2
        have h7 := e7_of (i := 2) g1 (by omega) (by rw [c2]; rfl) (by decide) (h7.1 c2)
        rw [at_.2.2.1] at h6
        exact ⟨_, h6, h7⟩
      have h6 := h6.2 c2
      have h7 := h7.2 c2
      by_cases c3 : x2 = 3
      · have h6 := (h6.1 c3).2
        have h7 := e7_of (i := 3) g1 (by omega) (by rw [c3]; rfl) (by decide) (h7.1 c3)
        rw [at_.2.2.2.1] at h6
        exact ⟨_, h6, h7⟩
      have h6 := h6.2 c3
      have h7 := h7.2 c3
      by_cases c4 : x2 = 4
      · obtain ⟨r, h6, er⟩ := e0_leftOf hf hD hB g1 g2 (h6.1 c4)
        obtain ⟨r', h7, er'⟩ := e7_leftOf hf hD g1 g2 (h7.1 c4)
        have ee : r' = r := Int32.toInt_inj.mp (er'.trans er.symm)
        rw [ee] at h7
        exact ⟨_, h6, h7⟩
      have h6 := h6.2 c4
      have h7 := h7.2 c4
      by_cases c5 : x2 = 5
      · have h6 := (h6.1 c5).2
        have h7 := e7_of (i := 4) g1 (by omega) rfl (by decide) (h7.1 c5)
        rw [at_.2.2.2.2.1] at h6
        exact ⟨_, h6, h7⟩
      have h6 := h6.2 c5
      have h7 := h7.2 c5
      by_cases c6 : x2 = 6
      · have h6 := (h6.1 c6).2
        have h7 := e7_of (i := 5) g1 (by omega) rfl (by decide) (h7.1 c6)
        rw [at_.2.2.2.2.2.1] at h6
        exact ⟨_, h6, h7⟩
      have h6 := h6.2 c6
      have h7 := h7.2 c6
      by_cases c7 : x2 = 7
      · have h6 := (h6.1 c7).2
        have h7 := e7_of (i := 6) g1 (by omega) rfl (by decide) (h7.1 c7)
        rw [at_.2.2.2.2.2.2.1] at h6
        exact ⟨_, h6, h7⟩
      have h6 := h6.2 c7
      have h7 := h7.2 c7
      by_cases c8 : x2 = 8
      · have h6 := h6.1 c8
        unfold wp_X0_wornCount at h6
        have h6 := h6.2
        rw [tn_i, at_.2.2.2.2.2.2.2] at h6
        obtain ⟨r, h6, er⟩ := e_bitCount h6
        obtain ⟨r', h7, er'⟩ := e7_bits (e7_wornOf g1 (by omega) (h7.1 c8))
        have ee : r' = r := Int32.toInt_inj.mp (er'.trans er.symm)
        rw [ee] at h7
        exact ⟨_, h6, h7⟩
      · exact ⟨_, h6.2 c8, h7.2 c8⟩
    · omega
  · rcases e7_isCell hf h7 with ⟨_, _, _⟩ | ⟨h7, _⟩
    · omega
    · exact ⟨_, h6.2 rfl, h7.2 rfl⟩
