/-! The parts of a board's text. -/
theorem dt_conj {O : Type} {F : (O → Prop) → Prop} (h : dt F F) {P Q : O → Prop} (a : F P) (b : F Q) : F (fun o => P o ∧ Q o) := by
  obtain ⟨o, p, w, d⟩ := h P a
  exact w _ ⟨p, d Q b⟩
/-- only the row that is now has changed -/
def FN (s u : Md) : Prop := u.1 = s.1 ∧ u.2.1 = s.2.1 ∧ (∀ k, ¬ k = 0 → u.2.2.1 k = s.2.2.1 k) ∧ u.2.2.2 = s.2.2.2
theorem FN_rf (s : Md) : FN s s := ⟨rfl, rfl, fun _ _ => rfl, rfl⟩
theorem FN_tr {s u v : Md} (a : FN s u) (b : FN u v) : FN s v := ⟨b.1.trans a.1, b.2.1.trans a.2.1, fun k h => (b.2.2.1 k h).trans (a.2.2.1 k h), b.2.2.2.trans a.2.2.2⟩
theorem FN_up (s : Md) (f : Nat → Int64) : FN s (s.1, s.2.1, (va_up s.2.2.1 0 f), s.2.2.2) := ⟨rfl, rfl, fun k h => by
  show (if k = 0 then f else s.2.2.1 k) = _
  rw [if_neg h], rfl⟩
theorem RT_fn {t : Tp} {s u : Md} (h : RT t s) (f : FN s u) : RT t u := by
  unfold RT RX
  rw [f.1, f.2.2.2]
  exact h
theorem tb_fn {s u : Md} (f : FN s u) (x : Int32) : tb7 u x = tb7 s x := by
  unfold tb7
  rw [f.1, f.2.2.2]
theorem e7_sets {P : Md → Prop} {s : Md} {x j : Int32} {y : Int64} {i : Nat} (h0 : 0 ≤ x.toInt) (h1 : x.toInt < 40) (hj : j.toInt = (i : Int)) (hi : i < 8) (h : wp_X7_sets P s x j y) : ∃ u, P u ∧ FN s u ∧ u.2.2.1 0 = vp_updL (s.2.2.1 0) (176 + 8 * x.toInt.toNat + i) y := by
  unfold wp_X7_sets at h
  have h := h.2
  rw [ixc h0 h1 (by omega) (by omega), show j.toInt.toNat = i by omega] at h
  exact ⟨_, h, FN_up s _, rfl⟩
theorem uL_n {f : Nat → Int64} {k i : Nat} {y : Int64} (h : ¬ i = k) : vp_updL f k y i = f i := by
  unfold vp_updL
  rw [if_neg h]
theorem uL_e {f : Nat → Int64} {k : Nat} {y : Int64} : vp_updL f k y k = y := by
  unfold vp_updL
  rw [if_pos rfl]
theorem up_n {f : Nat → Int32} {k i : Nat} {y : Int32} (h : ¬ i = k) : upd f k y i = f i := by
  unfold upd
  rw [if_neg h]
theorem up_e {f : Nat → Int32} {k : Nat} {y : Int32} : upd f k y k = y := by
  unfold upd
  rw [if_pos rfl]
theorem t32_64 (x : Int32) : Int64.toInt32 (Int32.toInt64 x) = x := Int32.toInt_inj.mp (by
  have := tq_r x
  rw [t32 (by rw [tq_64]; omega), tq_64])
theorem RB_c {s u : Bd} {f g : Nat → Int64} {c : Nat} (h : RB s f) (h1 : u.1 = s.1) (h0 : u.2.1 0 = s.2.1 0 ∧ u.2.1 1 = s.2.1 1 ∧ u.2.1 2 = s.2.1 2) (hc : ∀ j : Nat, j < 7 → ∀ i, ¬ i = c → u.2.1 (3 + j) i = s.2.1 (3 + j) i) (hw : ∀ i, ¬ i = c → u.2.2.1 i = s.2.2.1 i) (hg : ∀ i, (i < 176 + 8 * c ∨ 176 + 8 * c + 8 ≤ i) → g i = f i) (hj : (∀ j : Nat, j < 7 → u.2.1 (3 + j) c = Int64.toInt32 (g (176 + 8 * c + j))) ∧ u.2.2.1 c = g (176 + 8 * c + 7) ∧ bs_at (g (176 + 8 * c + 7)) 0 = false) : RB u g := by
  obtain ⟨a, b, d⟩ := h
  have g0 : g 0 = f 0 := hg 0 (Or.inl (by omega))
  have g1 : g 1 = f 1 := hg 1 (Or.inl (by omega))
  have g2 : g 2 = f 2 := hg 2 (Or.inl (by omega))
  have g3 : g 3 = f 3 := hg 3 (Or.inl (by omega))
  refine ⟨by rw [h1, g0, g1, g2, g3]; exact a, ⟨by rw [g3, g0, g1]; exact b.1, fun e he => ?_⟩, fun i hi => ?_⟩
  · rw [g3] at he
    have b0 := b.1
    obtain ⟨b4, b1, b2, b3⟩ := b.2 e he
    have b40 := b4.1
    have ed : d_f g e = d_f f e := by
      unfold d_f
      rw [hg _ (Or.inl (by omega))]
    rw [h0.1, h0.2.1, h0.2.2, ed, hg (8 + 42 * e) (Or.inl (by omega)), hg (8 + 42 * e + 1) (Or.inl (by omega))]
    refine ⟨DG_k b4 (fun i h1 h2 => hg i (Or.inl (by omega))), b1, b2, fun k hk => ?_⟩
    rw [hg _ (Or.inl (by omega))]
    exact b3 k hk
  · rw [g0, g1] at hi
    by_cases q : i = c
    · rw [q]
      exact hj
    · obtain ⟨d1, d2⟩ := d i hi
      refine ⟨fun j hj => ?_, ?_⟩
      · rw [hc j hj i q, hg _ (by omega)]
        exact d1 j hj
      · rw [hw i q, hg _ (by omega)]
        exact d2
/-! a drum -/
theorem e0_addDrum_L {t : Tp} {p6 : Bd → Prop} {e6 : Bd → Int32 → Int32 → Int32 → Int32 → Prop} {z1 q n0 : Int32} {d : Nat} (hd : d < 4) (hn : 0 ≤ n0.toInt ∧ n0.toInt ≤ 40) (hq : 0 ≤ q.toInt ∧ q.toInt ≤ 400) : ∀ (n : Nat) (s : Bd) (z : Int32), (s.1 3).toInt = (d : Int) → 0 ≤ z.toInt → z.toInt ≤ n0.toInt → wp_X0_addDrum_L40 t p6 e6 n s z1 q n0 z → ∃ u z', e6 u z1 q n0 z' ∧ u.1 = s.1 ∧ (∀ j, ¬ j = 2 → u.2.1 j = s.2.1 j) ∧ u.2.2 = s.2.2 ∧ (∀ i : Nat, i < 40 * d + z.toInt.toNat → u.2.1 2 i = s.2.1 2 i) ∧ (∀ k : Nat, z.toInt ≤ (k : Int) → (k : Int) < n0.toInt → u.2.1 2 (40 * d + k) = tb5 t (q + nI k)) := by
  have e1 : (1 : Int32).toInt = 1 := rfl
  have e40 : (40 : Int32).toInt = 40 := rfl
  intro n
  induction n with
  | zero =>
    intro s z _ _ _ h
    exact (show False from h).elim
  | succ n ih =>
    intro s z h3 h0 h1 h
    unfold wp_X0_addDrum_L40 at h
    by_cases c : n0 ≤ z
    · have := q_le c
      exact ⟨s, z, h.1 c, rfl, fun _ _ => rfl, rfl, fun _ _ => rfl, fun k g1 g2 => by omega⟩
    · have c1 := q_nle c
      have a1 := nw (tq_add q z) (by omega)
      have a2 := nw (tq_addr e1 z) (by omega)
      have a3 := nw (tq_mulr e40 (s.1 3)) (by omega)
      have a4 := nw (tq_add ((s.1 3) * 40) z) (by omega)
      have h := (e5_byteAt (by omega) (h.2 c)).2
      have ix : Int32.toNatClampNeg (((s.1 3) * 40) + z) = 40 * d + z.toInt.toNat := by
        rw [tn_i]
        omega
      rw [ix] at h
      obtain ⟨u, z', b1, b2, b3, b4, b5, b6⟩ := ih (s.1, (va_up s.2.1 2 (upd (s.2.1 2) (40 * d + z.toInt.toNat) (tb5 t (q + z)))), s.2.2.1, s.2.2.2.1, s.2.2.2.2) (z + 1) h3 (by omega) (by omega) h
      refine ⟨u, z', b1, b2, fun j hj => ?_, b4, fun i hi => ?_, fun k g1 g2 => ?_⟩
      · rw [b3 j hj]
        show (if j = 2 then _ else s.2.1 j) = _
        rw [if_neg hj]
      · rw [b5 i (by omega)]
        show upd (s.2.1 2) (40 * d + z.toInt.toNat) (tb5 t (q + z)) i = _
        exact up_n (by omega)
      · by_cases g : (k : Int) = z.toInt
        · have ek : k = z.toInt.toNat := by omega
          rw [b5 _ (by omega), ek, nI_tn h0]
          show upd (s.2.1 2) (40 * d + z.toInt.toNat) (tb5 t (q + z)) (40 * d + z.toInt.toNat) = _
          exact up_e
        · exact b6 k (by omega) g2
theorem e7_drum_L {p7 : Int32 → Md → Prop} {e7 : Md → Int32 → Int32 → Int32 → Prop} {z1 z2 q n0 : Int32} {d : Nat} (hd : d < 4) (hz : z2.toInt = 8 + 42 * (d : Int)) (hn : 0 ≤ n0.toInt ∧ n0.toInt ≤ 40) (hq : 0 ≤ q.toInt ∧ q.toInt + n0.toInt ≤ 400) : ∀ (n : Nat) (s : Md) (z : Int32), s.1 10 = q → s.1 11 = n0 → 0 ≤ z.toInt → z.toInt ≤ n0.toInt → wp_X7_readsDrum_L91 p7 e7 n s z1 z2 z → ∃ u z', e7 u z1 z2 z' ∧ FN s u ∧ (∀ i : Nat, (i < 8 + 42 * d + 2 + z.toInt.toNat ∨ 8 + 42 * d + 2 + n0.toInt.toNat ≤ i) → u.2.2.1 0 i = s.2.2.1 0 i) ∧ (∀ k : Nat, z.toInt ≤ (k : Int) → (k : Int) < n0.toInt → u.2.2.1 0 (8 + 42 * d + 2 + k) = Int32.toInt64 (s.2.2.2 2 (Int32.toNatClampNeg (q + nI k)))) := by
  have e1 : (1 : Int32).toInt = 1 := rfl
  have e2 : (2 : Int32).toInt = 2 := rfl
  intro n
  induction n with
  | zero =>
    intro s z _ _ _ _ h
    exact (show False from h).elim
  | succ n ih =>
    intro s z hq1 hn1 h0 h1 h
    unfold wp_X7_readsDrum_L91 at h
    rw [hq1, hn1] at h
    by_cases c : n0 ≤ z
    · have := q_le c
      exact ⟨s, z, h.1 c, FN_rf s, fun _ _ => rfl, fun k g1 g2 => by omega⟩
    · have c1 := q_nle c
      have a2 := nw (tq_addr e1 z) (by omega)
      have a3 := nw (tq_addr e2 z2) (by omega)
      have a4 := nw (tq_add (z2 + 2) z) (by omega)
      have h := (h.2 c).2.2
      have ix : Int32.toNatClampNeg ((z2 + 2) + z) = 8 + 42 * d + 2 + z.toInt.toNat := by
        rw [tn_i]
        omega
      rw [ix] at h
      obtain ⟨u, z', b1, b2, b3, b4⟩ := ih (s.1, s.2.1, (va_up s.2.2.1 0 (vp_updL (s.2.2.1 0) (8 + 42 * d + 2 + z.toInt.toNat) (Int32.toInt64 (s.2.2.2 2 (Int32.toNatClampNeg (q + z)))))), s.2.2.2) (z + 1) hq1 hn1 (by omega) (by omega) h
      refine ⟨u, z', b1, FN_tr (FN_up s _) b2, fun i hi => ?_, fun k g1 g2 => ?_⟩
      · rw [b3 i (by omega)]
        show vp_updL (s.2.2.1 0) (8 + 42 * d + 2 + z.toInt.toNat) _ i = _
        exact uL_n (by omega)
      · by_cases g : (k : Int) = z.toInt
        · have ek : k = z.toInt.toNat := by omega
          rw [b3 _ (by omega), ek, nI_tn h0]
          show vp_updL (s.2.2.1 0) (8 + 42 * d + 2 + z.toInt.toNat) _ (8 + 42 * d + 2 + z.toInt.toNat) = _
          exact uL_e
        · exact b4 k (by omega) g2
/-- a byte that is a sign is the same with and without its sign bit -/
theorem by_s {a : Int32} (h1 : -128 ≤ a.toInt) (h2 : a.toInt ≤ 127) (h3 : (a &&& 255).toInt ≤ 127) : a &&& 255 = a := by
  have e : (a &&& 255).toBitVec.toNat = a.toBitVec.toNat % 256 := by
    rw [Int32.toBitVec_and, BitVec.toNat_and]
    exact Nat.and_two_pow_sub_one_eq_mod (n := 8) _
  have t1 : (a &&& 255).toInt = ((a &&& 255).toBitVec.toNat : Int) := by
    show (a &&& 255).toBitVec.toInt = _
    rw [BitVec.toInt_eq_toNat_of_lt (by rw [e]; omega)]
  have t2 : a.toInt = if 2 * a.toBitVec.toNat < 2 ^ 32 then (a.toBitVec.toNat : Int) else (a.toBitVec.toNat : Int) - ((2 ^ 32 : Nat) : Int) := BitVec.toInt_eq_toNat_cond _
  have l : a.toBitVec.toNat < 2 ^ 32 := a.toBitVec.isLt
  refine Int32.toInt_inj.mp ?_
  rw [t1, e]
  rw [t1, e] at h3
  by_cases c : 2 * a.toBitVec.toNat < 2 ^ 32
  · rw [if_pos c] at t2
    omega
  · rw [if_neg c] at t2
    omega
theorem tb_sg {t : Tp} {s : Md} {q n : Int32} (hx : RX t s) (hs : SG s q n) (hq : 0 ≤ q.toInt) (hn : q.toInt + n.toInt ≤ (s.1 5).toInt) {k : Nat} (hk : (k : Int) < n.toInt) : tb7 s (q + nI k) = s.2.2.2 2 (Int32.toNatClampNeg (q + nI k)) := by
  have g := hs k hk
  have b := hx.2.2
  have e : (q + nI k).toInt = q.toInt + (k : Int) := qk hq (by omega) (by omega)
  unfold tb7 at g ⊢
  have c : ¬ s.1 5 ≤ q + nI k := fun c => by
    have := q_le c
    omega
  rw [if_neg c] at g ⊢
  have r := b.2.2 (Int32.toNatClampNeg (q + nI k))
  exact by_s r.1 r.2 (by omega)
theorem rows_e {P : Int32 → Prop} {s : Md} (h : wp_X7_rows P s) : P (Int64.toInt32 (s.2.2.1 0 0)) := by
  unfold wp_X7_rows at h
  exact h
theorem wide_e {P : Int32 → Prop} {s : Md} (h : wp_X7_wide P s) : P (Int64.toInt32 (s.2.2.1 0 1)) := by
  unfold wp_X7_wide at h
  exact h
theorem drums_e {P : Int32 → Prop} {s : Md} (h : wp_X7_drums P s) : P (Int64.toInt32 (s.2.2.1 0 3)) := by
  unfold wp_X7_drums at h
  exact h
theorem cells7_e {P : Int32 → Prop} {s : Md} (h : wp_X7_cells P s) : P (Int64.toInt32 (s.2.2.1 0 0) * Int64.toInt32 (s.2.2.1 0 1)) := by
  unfold wp_X7_cells at h
  exact wide_e (rows_e h)
theorem cells6_e {P : Int32 → Prop} {s : Bd} (h : wp_X0_cells P s) : P (s.1 0 * s.1 1) := by
  unfold wp_X0_cells at h
  exact h
/-- numbers of a row that is sound -/
theorem rw_n {R W D : Int} {f : Nat → Int64} (h : rw_ok R W D f) : (Int64.toInt32 (f 0)).toInt = R ∧ (Int64.toInt32 (f 1)).toInt = W ∧ (Int64.toInt32 (f 3)).toInt = D ∧ (Int64.toInt32 (f 0) * Int64.toInt32 (f 1)).toInt = R * W ∧ (0 ≤ R ∧ R ≤ 6 ∧ 0 ≤ W ∧ W ≤ 10 ∧ 0 ≤ R * W ∧ R * W ≤ 40 ∧ 0 ≤ D ∧ D ≤ 4) := by
  obtain ⟨a, b, c, _, _, g, _⟩ := h
  have e0 : (Int64.toInt32 (f 0)).toInt = R := by rw [t32 (by omega)]; exact a
  have e1 : (Int64.toInt32 (f 1)).toInt = W := by rw [t32 (by omega)]; exact b
  have e3 : (Int64.toInt32 (f 3)).toInt = D := by rw [t32 (by omega)]; exact c
  refine ⟨e0, e1, e3, ?_, by omega⟩
  have m := tq_mul (Int64.toInt32 (f 0)) (Int64.toInt32 (f 1))
  rw [e0, e1] at m
  exact nw m (by omega)
/-- behind a word: the class stands behind it, the reference steps over it -/
theorem RT_word {r : Int32} {u : Tp} {v : Md} {i : Nat} {x : Int32} (hi : i < 12) (hc : CW r u v) (hw : wd_y v i) (hx : x = nI (st_len.getD i 0)) : RT u ((va_up v.1 6 ((v.1 6) + x)), v.2.1, v.2.2.1, v.2.2.2) := by
  obtain ⟨c1, c2, c3, c4, c5, c6, c7, c8⟩ := hc
  obtain ⟨g1, g2⟩ := c8 i hi hw
  have bb := c1.2.2
  have l := lnn i
  have ll : ln i = ((st_len.getD i 0 : Nat) : Int) := rfl
  have k := qk (q := v.1 6) (k := st_len.getD i 0) (by omega) (by omega) (by omega)
  refine ⟨c1, ?_, ?_, ?_, c5⟩
  · show u.1 1 = v.1 6 + x
    rw [hx]
    exact g1
  · show 0 ≤ (v.1 6 + x).toInt
    rw [hx]
    omega
  · show (v.1 6 + x).toInt ≤ (v.1 5).toInt
    rw [hx]
    omega
theorem va_n {α : Type} {f : Nat → α} {k i : Nat} {y : α} (h : ¬ i = k) : va_up f k y i = f i := by
  unfold va_up
  rw [if_neg h]
theorem RB_drum {b w : Bd} {f g : Nat → Int64} {d : Nat} {cur n0 : Int32} (hB : RB b f) (h3 : (f 3).toInt = (d : Int)) (hd : d < 4) (hcur : 1 ≤ cur.toInt ∧ cur.toInt ≤ 9) (hn : 0 ≤ n0.toInt ∧ n0.toInt ≤ 40) (w1 : w.1 = va_up b.1 3 (b.1 3 + 1)) (w0 : w.2.1 0 = upd (b.2.1 0) d cur) (wz : w.2.1 1 = upd (b.2.1 1) d n0) (ws : ∀ i, i < 40 * d → w.2.1 2 i = b.2.1 2 i) (wj : ∀ j, 3 ≤ j → w.2.1 j = b.2.1 j) (w2 : w.2.2.1 = b.2.2.1) (g3 : g 3 = f 3 + 1) (gi : ∀ i, ¬ i = 3 → (i < 8 + 42 * d ∨ 176 ≤ i) → g i = f i) (gc : g (8 + 42 * d) = Int32.toInt64 cur) (gn : g (8 + 42 * d + 1) = Int32.toInt64 n0) (gs : ∀ k : Nat, (k : Int) < n0.toInt → w.2.1 2 (40 * d + k) = Int64.toInt32 (g (8 + 42 * d + 2 + k))) (gr : ∀ k : Nat, (k : Int) < n0.toInt → 32 ≤ (g (8 + 42 * d + 2 + k)).toInt ∧ (g (8 + 42 * d + 2 + k)).toInt ≤ 126) : RB w g := by
  obtain ⟨⟨a0, a1, a2, a3⟩, ⟨b0, b1⟩, c0⟩ := hB
  have e1 : (1 : Int64).toInt = 1 := rfl
  have j1 : (1 : Int32).toInt = 1 := rfl
  have t3 : (g 3).toInt = (d : Int) + 1 := by
    have e : (2 ^ 64 : Nat) = 18446744073709551616 := by decide
    rw [g3, Int64.toInt_add, e1, h3, e]
    unfold Int.bmod
    dsimp only
    split <;> omega
  have w3 : w.1 3 = Int64.toInt32 (g 3) := Int32.toInt_inj.mp (by
    have u3 : (b.1 3).toInt = (d : Int) := by rw [a3, t32 (by omega), h3]
    rw [w1, t32 (by omega), t3]
    show (b.1 3 + 1).toInt = _
    rw [nw (tq_addr j1 (b.1 3)) (by omega), u3])
  have g0 : g 0 = f 0 := gi 0 (by decide) (Or.inl (by omega))
  have g1 : g 1 = f 1 := gi 1 (by decide) (Or.inl (by omega))
  have g2 : g 2 = f 2 := gi 2 (by decide) (Or.inl (by omega))
  refine ⟨⟨?_, ?_, ?_, w3⟩, ⟨⟨by omega, by rw [g0, g1]; exact b0.2⟩, fun e he => ?_⟩, fun c hc => ?_⟩
  · rw [w1, g0]
    exact a0
  · rw [w1, g1]
    exact a1
  · rw [w1, g2]
    exact a2
  · by_cases q : e = d
    · subst q
      have dg : d_f g e = n0.toInt := by
        unfold d_f
        rw [gn, tq_64]
      have dgg : DG g e := ⟨by rw [dg]; exact hn.2, by rw [gc, tq_64]; exact hcur.1, by rw [gc, tq_64]; exact hcur.2, fun k hk => gr k (by rw [dg] at hk; exact hk)⟩
      rw [dg, w0, wz, gc, gn, up_e, up_e, t32_64, t32_64]
      exact ⟨dgg, rfl, rfl, fun k hk => gs k hk⟩
    · have he2 : e < d := by omega
      obtain ⟨x0, x1, x2, x3⟩ := b1 e (by omega)
      have dg : d_f g e = d_f f e := by
        unfold d_f
        rw [gi _ (by omega) (Or.inl (by omega))]
      rw [dg, w0, wz, up_n q, up_n q, gi _ (by omega) (Or.inl (by omega)), gi (8 + 42 * e + 1) (by omega) (Or.inl (by omega))]
      have x00 := x0.1
      refine ⟨DG_k x0 (fun i h1 h2 => gi i (by omega) (Or.inl (by omega))), x1, x2, fun k hk => ?_⟩
      rw [ws _ (by omega), gi _ (by omega) (Or.inl (by omega))]
      exact x3 k hk
  · rw [g0, g1] at hc
    obtain ⟨x0, x1⟩ := c0 c hc
    refine ⟨fun j hj => ?_, ?_⟩
    · rw [wj _ (by omega), gi _ (by omega) (Or.inr (by omega))]
      exact x0 j hj
    · rw [w2, gi _ (by omega) (Or.inr (by omega))]
      exact x1
/-- what a part's reading ends in: all is well beside each other, or the same fault -/
def OUT (b : Bd) (t : Tp) (r : Int32) (v : Md) : Prop := (r = 1 ∧ RT t v ∧ RB b (v.2.2.1 0)) ∨ (r = 0 ∧ FL t v)
/-! faults stay -/
theorem fa_num {P : Int32 → Tp → Prop} {t : Tp} {lo hi : Int32} {v : Md} (hf : FL t v) (h : wp_X5_takeNumber P t lo hi) : ∃ r u, P r u ∧ FL u v := by
  obtain ⟨⟨r, u⟩, a, b⟩ := fq_X5_takeNumber t lo hi hf.2 rfl (fun x => P x.1 x.2) h
  have b : u.1 5 = t.1 5 := b
  exact ⟨r, u, a, b.trans hf.1, fun g => hf.2 (b.symm.trans g)⟩
theorem fa_quo {P : Tp → Prop} {t : Tp} {lo hi : Int32} {v : Md} (hf : FL t v) (h : wp_X5_takeQuoted P t lo hi) : ∃ u, P u ∧ FL u v := by
  obtain ⟨u, a, b⟩ := fq_X5_takeQuoted t lo hi hf.2 rfl P h
  have b : u.1 5 = t.1 5 := b
  exact ⟨u, a, b.trans hf.1, fun g => hf.2 (b.symm.trans g)⟩
theorem fa_word {P : Tp → Prop} {t : Tp} {x : Int32} {v : Md} (hf : FL t v) (h : wp_X5_takeThisWord P t x) : ∃ u, P u ∧ FL u v := by
  obtain ⟨u, a, b⟩ := fq_X5_takeThisWord t x hf.2 rfl P h
  have b : u.1 5 = t.1 5 := b
  exact ⟨u, a, b.trans hf.1, fun g => hf.2 (b.symm.trans g)⟩
theorem fa_takeWord {P : Int32 → Tp → Prop} {t : Tp} {v : Md} (hf : FL t v) (h : wp_X5_takeWord P t) : ∃ r u, P r u ∧ FL u v := by
  obtain ⟨⟨r, u⟩, a, b⟩ := fq_X5_takeWord t hf.2 rfl (fun x => P x.1 x.2) h
  have b : u.1 5 = t.1 5 := b
  exact ⟨r, u, a, b.trans hf.1, fun g => hf.2 (b.symm.trans g)⟩
theorem fa_sound {P : Int32 → Prop} {t : Tp} {v : Md} (hf : FL t v) (h : wp_X5_isSound P t) : P 0 := (e5_isSound h).2 hf.2
theorem fa_blame {P : Tp → Prop} {t : Tp} {x k : Int32} {v : Md} (hf : FL t v) (h : wp_X5_blame P t x k) : P t := e5_blame hf.2 h
theorem sm_readDrum {P6 : Bd → Tp → Prop} {P7 : Int32 → Md → Prop} {b : Bd} {t : Tp} {v : Md} {R W D : Int} (hR : RT t ((va_up v.1 6 ((v.1 6) + 4)), v.2.1, v.2.2.1, v.2.2.2)) (hB : RB b (v.2.2.1 0)) (hf : rw_ok R W D (v.2.2.1 0)) (hD : D < 4) (h6 : wp_X1_readDrum P6 b t) (h7 : wp_X7_readsDrum P7 v) : ∃ b' t' r v', P6 b' t' ∧ P7 r v' ∧ OUT b' t' r v' := by
  have rn := rw_n hf
  unfold wp_X1_readDrum at h6
  unfold wp_X7_readsDrum at h7
  have h7 := (drums_e h7).1 (fun g => by
    have := q_eq g
    have e4 : (4 : Int32).toInt = 4 := rfl
    omega)
  obtain ⟨r1, u1, r7, v1, a1, a2, a3, a4⟩ := sm_number hR (by decide) (by decide) h6 h7
  rcases a4 with ⟨rfl, a4, a5, a6⟩ | ⟨rfl, a4⟩
  · have h7 := a2.1 (by decide)
    obtain ⟨u2, r8, v2, b1, b2, b3, b4⟩ := sm_quoted a4 (by decide) (by decide) (by decide) a1 h7
    have fr := FR_tr a3 b3
    have fv : v2.2 = v.2 := fr.2.2.2
    rcases b4 with ⟨rfl, b4, c1, c2, c3, c4, c5, c6, c7⟩ | ⟨rfl, b4⟩
    · have k6 := ((e5_isSound b1).1 b4.2.2.2.2).2 (by decide)
      have k7 := drums_e (b2.1 (by decide))
      have e2 : (2 : Int32).toInt = 2 := rfl
      have e40 : (40 : Int32).toInt = 40 := rfl
      have e8 : (8 : Int32).toInt = 8 := rfl
      have e42 : (42 : Int32).toInt = 42 := rfl
      have e1 : (1 : Int32).toInt = 1 := rfl
      have e4 : (4 : Int32).toInt = 4 := rfl
      have bb := b4.1.2.2
      rw [e2] at c3
      rw [e40] at c4
      obtain ⟨d, hd⟩ : ∃ d : Nat, (d : Int) = D := ⟨D.toNat, by omega⟩
      have fv1 : v2.2.2.1 0 = v.2.2.1 0 := by rw [fv]
      have b3D : b.1 3 = Int64.toInt32 (v.2.2.1 0 3) := hB.1.2.2.2
      have td : (b.1 3).toInt = (d : Int) := by rw [b3D]; omega
      unfold wp_X0_addDrum at k6
      have k6 := k6.2 (fun g => by
        have := q_le g
        omega)
      rw [c1, c2] at k6
      have k6 := (k6.1 (Int32.le_iff_toInt_le.mpr (by omega))).2.2
      obtain ⟨n6, k6⟩ := k6
      have dn : Int32.toNatClampNeg (b.1 3) = d := by rw [tn_i]; omega
      rw [dn] at k6
      obtain ⟨w, z6, d1, d2, d3, d4, d5, d6⟩ := e0_addDrum_L (d := d) (q := v2.1 10) (n0 := v2.1 11) (by omega) (by omega) (by omega) n6 (b.1, (va_up (va_up b.2.1 0 (upd (b.2.1 0) d r1)) 1 (upd (b.2.1 1) d (v2.1 11))), b.2.2.1, b.2.2.2.1, b.2.2.2.2) 0 td (by decide) (by show (0 : Int) ≤ _; omega) k6
      obtain ⟨_, _, n7, k7⟩ := k7
      rw [fv1] at k7
      have m1 := nw (tq_mulc e42 (Int64.toInt32 (v.2.2.1 0 3))) (by omega)
      have m2 := nw (tq_addc e8 (42 * Int64.toInt32 (v.2.2.1 0 3))) (by omega)
      have m3 := nw (tq_addr e1 (8 + 42 * Int64.toInt32 (v.2.2.1 0 3))) (by omega)
      have i1 : Int32.toNatClampNeg (8 + 42 * Int64.toInt32 (v.2.2.1 0 3)) = 8 + 42 * d := by rw [tn_i]; omega
      have i2 : Int32.toNatClampNeg ((8 + 42 * Int64.toInt32 (v.2.2.1 0 3)) + 1) = 8 + 42 * d + 1 := by rw [tn_i]; omega
      rw [i1, i2] at k7
      obtain ⟨y, z7, g1, g2, g3, g4⟩ := e7_drum_L (d := d) (z1 := v1.1 8) (z2 := 8 + 42 * Int64.toInt32 (v.2.2.1 0 3)) (q := v2.1 10) (n0 := v2.1 11) (by omega) (by omega) (by omega) (by omega) n7 (v2.1, v2.2.1, (va_up v2.2.2.1 0 (vp_updL (vp_updL (v.2.2.1 0) (8 + 42 * d) (Int32.toInt64 (v1.1 8))) (8 + 42 * d + 1) (Int32.toInt64 (v2.1 11)))), v2.2.2.2) 0 rfl rfl (by decide) (by show (0 : Int) ≤ _; omega) k7
      have z0 : (0 : Int32).toInt.toNat = 0 := rfl
      rw [z0] at g3 d5
      have lo : ∀ i : Nat, (i < 8 + 42 * d + 2 ∨ 8 + 42 * d + 2 + (v2.1 11).toInt.toNat ≤ i) → y.2.2.1 0 i = vp_updL (vp_updL (v.2.2.1 0) (8 + 42 * d) (Int32.toInt64 (v1.1 8))) (8 + 42 * d + 1) (Int32.toInt64 (v2.1 11)) i := fun i hi => g3 i hi
      have y3 : y.2.2.1 0 3 = v.2.2.1 0 3 := by
        rw [lo 3 (Or.inl (by omega)), uL_n (by omega), uL_n (by omega)]
      refine ⟨_, _, 1, _, d1, g1, Or.inl ⟨rfl, RT_fn (RT_fn b4 (FN_tr (FN_up v2 _) g2)) (FN_up y _), ?_⟩⟩
      refine RB_drum (d := d) (cur := r1) (n0 := v2.1 11) hB (by rw [hf.2.2.1]; exact hd.symm) (by omega) (show 1 ≤ r1.toInt ∧ r1.toInt ≤ 9 from ⟨a6.1, a6.2.1⟩) (by omega) ?_ ?_ ?_ (fun i hi => ?_) (fun j hj => ?_) ?_ ?_ (fun i n3 hi => ?_) ?_ ?_ (fun k hk => ?_) (fun k hk => ?_)
      · show va_up w.1 3 ((w.1 3) + 1) = _
        rw [d2]
      · show w.2.1 0 = _
        rw [d3 0 (by decide)]
        rfl
      · show w.2.1 1 = _
        rw [d3 1 (by decide)]
        rfl
      · show w.2.1 2 i = _
        rw [d5 i hi]
        rfl
      · show w.2.1 j = _
        rw [d3 j (by omega)]
        show va_up (va_up b.2.1 0 _) 1 _ j = _
        rw [va_n (by omega), va_n (by omega)]
      · show w.2.2.1 = _
        rw [d4]
      · show vp_updL (y.2.2.1 0) 3 ((y.2.2.1 0 3) + 1) 3 = _
        rw [uL_e, y3]
      · show vp_updL (y.2.2.1 0) 3 ((y.2.2.1 0 3) + 1) i = _
        rw [uL_n n3, lo i (by omega), uL_n (by omega), uL_n (by omega)]
      · show vp_updL (y.2.2.1 0) 3 ((y.2.2.1 0 3) + 1) (8 + 42 * d) = _
        rw [uL_n (by omega), lo _ (Or.inl (by omega)), uL_n (by omega), uL_e, a5]
      · show vp_updL (y.2.2.1 0) 3 ((y.2.2.1 0 3) + 1) (8 + 42 * d + 1) = _
        rw [uL_n (by omega), lo _ (Or.inl (by omega)), uL_e]
      · show w.2.1 2 (40 * d + k) = Int64.toInt32 (vp_updL (y.2.2.1 0) 3 ((y.2.2.1 0 3) + 1) (8 + 42 * d + 2 + k))
        rw [uL_n (by omega), g4 k (by show (0 : Int) ≤ _; omega) hk, t32_64, d6 k (by show (0 : Int) ≤ _; omega) hk, tb_eq b4.1]
        exact tb_sg b4.1 c7 c5 c6.1 hk
      · show 32 ≤ (vp_updL (y.2.2.1 0) 3 ((y.2.2.1 0 3) + 1) (8 + 42 * d + 2 + k)).toInt ∧ (vp_updL (y.2.2.1 0) 3 ((y.2.2.1 0 3) + 1) (8 + 42 * d + 2 + k)).toInt ≤ 126
        have sg := tb_sg b4.1 c7 c5 c6.1 hk
        have sk := c7 k hk
        rw [sg] at sk
        rw [uL_n (by omega), g4 k (by show (0 : Int) ≤ _; omega) hk, tq_64]
        exact ⟨sk.1, sk.2.1⟩
    · have k6 := fa_sound b4 b1
      exact ⟨_, _, 0, _, k6.1 rfl, b2.2 rfl, Or.inr ⟨rfl, b4⟩⟩
  · have h7 := a2.2 rfl
    obtain ⟨u2, b1, b2⟩ := fa_quo a4 a1
    have k6 := fa_sound b2 b1
    exact ⟨_, _, 0, _, k6.1 rfl, h7, Or.inr ⟨rfl, b2⟩⟩
/-! cells -/
theorem e7_cells8 {p7 : Int32 → Md → Prop} {e7 : Md → Int32 → Int32 → Int32 → Int32 → Prop} {z1 z2 z3 : Int32} (h0 : 0 ≤ z3.toInt) (h1 : z3.toInt < 40) : ∀ (n : Nat) (s : Md) (z : Int32), 0 ≤ z.toInt → z.toInt ≤ 8 → wp_X7_readsCells_L78 p7 e7 n s z1 z2 z3 z → ∃ u z', e7 u z1 z2 z3 z' ∧ FN s u ∧ (∀ i, (i < 176 + 8 * z3.toInt.toNat + z.toInt.toNat ∨ 176 + 8 * z3.toInt.toNat + 8 ≤ i) → u.2.2.1 0 i = s.2.2.1 0 i) ∧ (∀ j : Nat, z.toInt ≤ (j : Int) → j < 8 → u.2.2.1 0 (176 + 8 * z3.toInt.toNat + j) = 0) := by
  have e1 : (1 : Int32).toInt = 1 := rfl
  have e8 : (8 : Int32).toInt = 8 := rfl
  intro n
  induction n with
  | zero =>
    intro s z _ _ h
    exact (show False from h).elim
  | succ n ih =>
    intro s z a0 a1 h
    unfold wp_X7_readsCells_L78 at h
    by_cases c : 8 ≤ z
    · have := q_le c
      exact ⟨s, z, h.1 c, FN_rf s, fun _ _ => rfl, fun j g1 g2 => by omega⟩
    · have c1 := q_nle c
      have a2 := nw (tq_addr e1 z) (by omega)
      obtain ⟨u, b1, b2, b3⟩ := e7_sets (i := z.toInt.toNat) h0 h1 (by omega) (by omega) (h.2 c)
      obtain ⟨w, z', d1, d2, d3, d4⟩ := ih u (z + 1) (by omega) (by omega) b1
      refine ⟨w, z', d1, FN_tr b2 d2, fun i hi => ?_, fun j g1 g2 => ?_⟩
      · rw [d3 i (by omega), b3]
        exact uL_n (by omega)
      · by_cases g : (j : Int) = z.toInt
        · have ej : j = z.toInt.toNat := by omega
          rw [d3 _ (by omega), b3, ej]
          exact uL_e
        · exact d4 j (by omega) g2
theorem RB_make {b : Bd} {f g : Nat → Int64} {c : Nat} {dr : Int32} {x : Int32} (hx : Int32.toNatClampNeg x = c) (hB : RB b f) (hg : ∀ i, (i < 176 + 8 * c ∨ 176 + 8 * c + 8 ≤ i) → g i = f i) (hz : ∀ j : Nat, 1 ≤ j → j < 8 → g (176 + 8 * c + j) = 0) (h0 : g (176 + 8 * c + 0) = Int32.toInt64 dr) : RB (b.1, (va_up (va_up (va_up (va_up (va_up (va_up (va_up b.2.1 3 (upd (b.2.1 3) (Int32.toNatClampNeg x) dr)) 4 (upd (b.2.1 4) (Int32.toNatClampNeg x) 0)) 5 (upd (b.2.1 5) (Int32.toNatClampNeg x) 0)) 6 (upd (b.2.1 6) (Int32.toNatClampNeg x) 0)) 7 (upd (b.2.1 7) (Int32.toNatClampNeg x) 0)) 8 (upd (b.2.1 8) (Int32.toNatClampNeg x) 0)) 9 (upd (b.2.1 9) (Int32.toNatClampNeg x) 0)), (vp_updL b.2.2.1 (Int32.toNatClampNeg x) 0), b.2.2.2.1, b.2.2.2.2) g := by
  rw [hx]
  have zz : Int64.toInt32 0 = 0 := rfl
  refine RB_c (c := c) hB rfl ⟨rfl, rfl, rfl⟩ (fun j hj i hi => ?_) (fun i hi => uL_n hi) hg ⟨fun j hj => ?_, ?_⟩
  · rcases (show j = 0 ∨ j = 1 ∨ j = 2 ∨ j = 3 ∨ j = 4 ∨ j = 5 ∨ j = 6 by omega) with rfl | rfl | rfl | rfl | rfl | rfl | rfl
    · exact up_n hi
    · exact up_n hi
    · exact up_n hi
    · exact up_n hi
    · exact up_n hi
    · exact up_n hi
    · exact up_n hi
  · rcases (show j = 0 ∨ j = 1 ∨ j = 2 ∨ j = 3 ∨ j = 4 ∨ j = 5 ∨ j = 6 by omega) with rfl | rfl | rfl | rfl | rfl | rfl | rfl
    · rw [h0, t32_64]
      exact up_e
    · rw [hz 1 (by decide) (by decide), zz]
      exact up_e
    · rw [hz 2 (by decide) (by decide), zz]
      exact up_e
    · rw [hz 3 (by decide) (by decide), zz]
      exact up_e
    · rw [hz 4 (by decide) (by decide), zz]
      exact up_e
    · rw [hz 5 (by decide) (by decide), zz]
      exact up_e
    · rw [hz 6 (by decide) (by decide), zz]
      exact up_e
  · rw [hz 7 (by decide) (by decide)]
    exact ⟨uL_e, bs_0 0⟩
theorem sm_cells_L {t : Tp} {p6 : Bd → Tp → Prop} {p7 : Int32 → Md → Prop} {e6 : Bd → Tp → Int32 → Int32 → Int32 → Int32 → Int32 → Prop} {e7 : Md → Int32 → Int32 → Int32 → Prop} {last fr to dr : Int32} (h5 : t.1 5 = 0) (hto : to.toInt < 40) : ∀ (n6 n7 : Nat) (b : Bd) (v : Md) (z : Int32), RB b (v.2.2.1 0) → v.1 8 = dr → 0 ≤ z.toInt → z.toInt ≤ 40 → wp_X1_readCells_L38 p6 e6 n6 b t last fr to dr z → wp_X7_readsCells_L70 p7 e7 n7 v fr to z → ∃ b' z6 v' z7, e6 b' t last fr to dr z6 ∧ e7 v' fr to z7 ∧ RB b' (v'.2.2.1 0) ∧ FN v v' := by
  have e1 : (1 : Int32).toInt = 1 := rfl
  intro n6
  induction n6 with
  | zero =>
    intro n7 b v z _ _ _ _ h
    exact (show False from h).elim
  | succ n6 ih =>
    intro n7 b v z hB h8 h0 h1 h6 h7
    cases n7 with
    | zero => exact (show False from h7).elim
    | succ n7 =>
      unfold wp_X1_readCells_L38 at h6
      unfold wp_X7_readsCells_L70 at h7
      by_cases c : to < z
      · exact ⟨b, z, v, z, h6.1 c, h7.1 c, hB, FN_rf v⟩
      · have c1 := q_nlt c
        have a := nw (tq_addr e1 z) (by omega)
        have k6 := ((e5_isSound (h6.2 c)).1 h5).2 (by decide)
        unfold wp_X0_makeCell at k6
        have k6 := k6.2.2.2.2.2.2.2.2
        obtain ⟨n8, k7⟩ := h7.2 c
        obtain ⟨u, z8, b1, b2, b3, b4⟩ := e7_cells8 h0 (by omega) n8 v 0 (by decide) (by decide) k7
        obtain ⟨w, d1, d2, d3⟩ := e7_sets (i := 0) h0 (by omega) rfl (by decide) b1
        have z0 : (0 : Int32).toInt.toNat = 0 := rfl
        rw [z0] at b3
        refine Exists.elim (ih n7 _ w (z + 1) (RB_make (c := z.toInt.toNat) (dr := dr) rfl hB (fun i hi => ?_) (fun j g1 g2 => ?_) ?_) ?_ (by omega) (by omega) k6 d1) (fun b' ⟨z6, v', z7, g1, g2, g3, g4⟩ => ⟨b', z6, v', z7, g1, g2, g3, FN_tr (FN_tr b2 d2) g4⟩)
        · rw [d3, uL_n (by omega), b3 i (by omega)]
        · rw [d3, uL_n (by omega), b4 j (by show (0 : Int) ≤ _; omega) g2]
        · rw [d3, uL_e, b2.1, h8]
        · rw [d2.1, b2.1, h8]
theorem sm_readCells {P6 : Bd → Tp → Prop} {P7 : Int32 → Md → Prop} {b : Bd} {t : Tp} {v : Md} {R W D : Int} (hR : RT t ((va_up v.1 6 ((v.1 6) + 5)), v.2.1, v.2.2.1, v.2.2.2)) (hB : RB b (v.2.2.1 0)) (hf : rw_ok R W D (v.2.2.1 0)) (h6 : wp_X1_readCells P6 b t) (h7 : wp_X7_readsCells P7 v) : ∃ b' t' r v', P6 b' t' ∧ P7 r v' ∧ OUT b' t' r v' := by
  have rn := rw_n hf
  have e1 : (1 : Int32).toInt = 1 := rfl
  unfold wp_X1_readCells at h6
  unfold wp_X7_readsCells at h7
  have h6 := cells6_e h6
  have h7 := cells7_e h7
  have h7 : wp_X7_readsNumber _ _ (0 : Int32) (Int64.toInt32 (v.2.2.1 0 0) * Int64.toInt32 (v.2.2.1 0 1) - 1) := h7
  have s1 := nw (tq_subr e1 (Int64.toInt32 (v.2.2.1 0 0) * Int64.toInt32 (v.2.2.1 0 1))) (by omega)
  rw [hB.1.1, hB.1.2.1, hB.1.2.2.2] at h6
  obtain ⟨r1, u1, r7, v1, a1, a2, a3, a4⟩ := sm_number hR (by decide) (by omega) h6 h7
  rcases a4 with ⟨rfl, a4, a5, a6, a7, _⟩ | ⟨rfl, a4⟩
  · have fv1 : v1.2 = v.2 := a3.2.2.2
    have h7 := cells7_e (a2.1 (by decide))
    rw [fv1, ← a5] at h7
    have z0 : (0 : Int32).toInt = 0 := rfl
    rw [z0] at a6
    obtain ⟨r2, u2, r8, v2, b1, b2, b3, b4⟩ := sm_number a4 (by omega) (by omega) a1 h7
    rcases b4 with ⟨rfl, b4, b5, b6, b7, _⟩ | ⟨rfl, b4⟩
    · have fv2 : v2.2 = v.2 := b3.2.2.2.trans fv1
      have h7 := drums_e (b2.1 (by decide))
      rw [fv2] at h7
      have s3 := nw (tq_subr e1 (Int64.toInt32 (v.2.2.1 0 3))) (by omega)
      obtain ⟨r3, u3, r9, v3, c1, c2, c3, c4⟩ := sm_number b4 (by decide) (by omega) b1 h7
      rcases c4 with ⟨rfl, c4, c5, c6, c7, _⟩ | ⟨rfl, c4⟩
      · have fv3 : v3.2 = v.2 := c3.2.2.2.trans fv2
        obtain ⟨n6, k6⟩ := c1
        obtain ⟨n7, k7⟩ := c2.1 (by decide)
        rw [← b5] at k7
        obtain ⟨b', z6, v', z7, g1, g2, g3, g4⟩ := sm_cells_L c4.2.2.2.2 (by omega) n6 n7 b v3 r1 (by rw [fv3]; exact hB) c5.symm (by omega) (by omega) k6 k7
        exact ⟨b', u3, 1, v', g1, g2, Or.inl ⟨rfl, RT_fn c4 g4, g3⟩⟩
      · obtain ⟨n6, k6⟩ := c1
        cases n6 with
        | zero => exact (show False from k6).elim
        | succ n6 =>
          unfold wp_X1_readCells_L38 at k6
          refine ⟨b, u3, 0, v3, ?_, c2.2 rfl, Or.inr ⟨rfl, c4⟩⟩
          by_cases g : r2 < r1
          · exact k6.1 g
          · exact (fa_sound c4 (k6.2 g)).1 rfl
    · obtain ⟨r3, u3, c1, c4⟩ := fa_num b4 b1
      obtain ⟨n6, k6⟩ := c1
      cases n6 with
      | zero => exact (show False from k6).elim
      | succ n6 =>
        unfold wp_X1_readCells_L38 at k6
        refine ⟨b, u3, 0, v2, ?_, b2.2 rfl, Or.inr ⟨rfl, c4⟩⟩
        by_cases g : r2 < r1
        · exact k6.1 g
        · exact (fa_sound c4 (k6.2 g)).1 rfl
  · obtain ⟨r2, u2, b1, b4⟩ := fa_num a4 a1
    obtain ⟨r3, u3, c1, c4⟩ := fa_num b4 b1
    obtain ⟨n6, k6⟩ := c1
    cases n6 with
    | zero => exact (show False from k6).elim
    | succ n6 =>
      unfold wp_X1_readCells_L38 at k6
      refine ⟨b, u3, 0, v1, ?_, a2.2 rfl, Or.inr ⟨rfl, c4⟩⟩
      by_cases g : r2 < r1
      · exact k6.1 g
      · exact (fa_sound c4 (k6.2 g)).1 rfl
