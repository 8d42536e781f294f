/-! A row of a board's text: what its cells want, show, believe. -/
def VW (f : Nat → Int64) (s : Md) (q n0 : Int32) (c i : Nat) (w : Int32) : Prop := ((i : Int) < n0.toInt ∧ ∃ r, NV f c (tb7 s (q + nI i)) r ∧ ((r = -1 ∧ w = Int64.toInt32 (f (176 + 8 * c + 3))) ∨ (¬ r = -1 ∧ w = r))) ∨ (n0.toInt ≤ (i : Int) ∧ w = 0)
theorem VW_u {R W D : Int} {f : Nat → Int64} {s : Md} {q n0 : Int32} {c i : Nat} {w y : Int32} (hf : rw_ok R W D f) (hD : 0 < D) (hc : (c : Int) < R * W) (h1 : VW f s q n0 c i w) (h2 : VW f s q n0 c i y) : w = y := by
  rcases h1 with ⟨a, r, b, d⟩ | ⟨a, b⟩
  · rcases h2 with ⟨_, r2, b2, d2⟩ | ⟨a2, _⟩
    · have e := NV_u hf hD hc b b2
      subst e
      rcases d with ⟨d, e⟩ | ⟨d, e⟩
      · rcases d2 with ⟨_, e2⟩ | ⟨d2, _⟩
        · rw [e, e2]
        · exact absurd d d2
      · rcases d2 with ⟨d2, _⟩ | ⟨_, e2⟩
        · exact absurd d2 d
        · rw [e, e2]
    · omega
  · rcases h2 with ⟨a2, _⟩ | ⟨_, b2⟩
    · omega
    · rw [b, b2]
def SI (b : Bd) (f : Nat → Int64) (m : Md) (q n0 : Int32) (K : Nat) (s : Bd) (k : Nat) : Prop := s.1 = b.1 ∧ (∀ j, ¬ (j = 4 ∨ j = 5 ∨ j = 6) → s.2.1 j = b.2.1 j) ∧ s.2.2 = b.2.2 ∧ (∀ c : Nat, (c < K ∨ K + k ≤ c) → ∀ j, s.2.1 j c = b.2.1 j c) ∧ (∀ i : Nat, i < k → VW f m q n0 (K + i) i (s.2.1 6 (K + i)) ∧ s.2.1 4 (K + i) = s.2.1 6 (K + i) ∧ s.2.1 5 (K + i) = s.2.1 6 (K + i))
theorem SI_on {b : Bd} {f : Nat → Int64} {m : Md} {q n0 : Int32} {K : Nat} {s u : Bd} {k : Nat} (h : SI b f m q n0 K s k) (h1 : u.1 = s.1) (h2 : u.2.2 = s.2.2) (h3 : ∀ j, ¬ (j = 4 ∨ j = 5 ∨ j = 6) → u.2.1 j = s.2.1 j) (h4 : ∀ c, ¬ c = K + k → ∀ j, u.2.1 j c = s.2.1 j c) (h5 : VW f m q n0 (K + k) k (u.2.1 6 (K + k))) (h6 : u.2.1 4 (K + k) = u.2.1 6 (K + k)) (h7 : u.2.1 5 (K + k) = u.2.1 6 (K + k)) : SI b f m q n0 K u (k + 1) := by
  obtain ⟨a1, a2, a3, a4, a5⟩ := h
  refine ⟨h1.trans a1, fun j hj => (h3 j hj).trans (a2 j hj), h2.trans a3, fun c hc j => ?_, fun i hi => ?_⟩
  · rw [h4 c (by omega) j]
    exact a4 c (by omega) j
  · by_cases g : i = k
    · subst g
      exact ⟨h5, h6, h7⟩
    · rw [h4 _ (by omega), h4 _ (by omega), h4 _ (by omega)]
      exact a5 i (by omega)
theorem RDr_c {s u : Bd} {f : Nat → Int64} (h : RDr s f) (h1 : u.1 = s.1) (h0 : u.2.1 0 = s.2.1 0 ∧ u.2.1 1 = s.2.1 1 ∧ u.2.1 2 = s.2.1 2) : RDr u f := by
  unfold RDr
  rw [h1, h0.1, h0.2.1, h0.2.2]
  exact h
/-- the flap for a place of a text, by the class -/
theorem flap6 {P : Int32 → Prop} {s : Bd} {t : Tp} {m : Md} {f : Nat → Int64} {x q n0 : Int32} {z : Int32} {R W D : Int} {c : Nat} (hf : rw_ok R W D f) (hD : 0 < D) (hB : RDr s f) (hxx : RX t m) (hx : x.toInt = (c : Int)) (hc : (c : Int) < R * W) (x3 : s.2.1 3 c = Int64.toInt32 (f (176 + 8 * c + 0))) (x5 : s.2.1 5 c = Int64.toInt32 (f (176 + 8 * c + 2))) (c2 : s.2.2.1 c = f (176 + 8 * c + 7)) (hz : 0 ≤ z.toInt) (hz2 : z.toInt ≤ 400) (hq : 0 ≤ q.toInt ∧ q.toInt ≤ 400) (h : wp_X0_flapFor P s t x z q n0) : ∃ r, P r ∧ ((z.toInt < n0.toInt ∧ NV f c (tb7 m (q + nI z.toInt.toNat)) r) ∨ (n0.toInt ≤ z.toInt ∧ r = 0)) := by
  have e0 : (0 : Int32).toInt = 0 := rfl
  unfold wp_X0_flapFor at h
  have h := h.2 (fun g => by have := q_lt g; omega)
  by_cases g : n0 ≤ z
  · have := q_le g
    exact ⟨0, h.1 g, Or.inr ⟨this, rfl⟩⟩
  · have g1 := q_nle g
    have a := nw (tq_add q z) (by omega)
    have h := e5_byteAt (by omega) (h.2 g)
    rw [tb_eq hxx] at h
    have en : x.toInt.toNat = c := by omega
    obtain ⟨r, p, n⟩ := near6 hf hD hB (by omega) (by omega) (by rw [en]; exact x3) (by rw [en]; exact x5) (by rw [en]; exact c2) h
    rw [en] at n
    rw [nI_tn hz]
    exact ⟨r, p, Or.inl ⟨g1, n⟩⟩
theorem e0_show_L {t : Tp} {b : Bd} {f : Nat → Int64} {m : Md} {R W D : Int} {x q n0 : Int32} {K : Nat} {p6 : Bd → Prop} (hf : rw_ok R W D f) (hD : 0 < D) (hB : RB b f) (hxx : RX t m) (hW : (b.1 1).toInt = W) (hK : x.toInt * W = (K : Int)) (hK2 : (K : Int) + W ≤ R * W) (hq : 0 ≤ q.toInt ∧ q.toInt ≤ 400) : ∀ (n : Nat) (s : Bd) (z : Int32), 0 ≤ z.toInt → z.toInt ≤ W → SI b f m q n0 K s z.toInt.toNat → wp_X0_showSigns_L3 t p6 (fun t0 z1 z3 z4 z5 => p6 t0) n s x q n0 z → ∃ u, p6 u ∧ SI b f m q n0 K u W.toNat := by
  have rn := rw_n hf
  have e1 : (1 : Int32).toInt = 1 := rfl
  intro n
  induction n with
  | zero =>
    intro s z _ _ _ h
    exact (show False from h).elim
  | succ n ih =>
    intro s z h0 h1 hI h
    unfold wp_X0_showSigns_L3 at h
    have I := hI
    obtain ⟨i1, i2, i3, i4, i5⟩ := hI
    rw [i1] at h
    by_cases c : b.1 1 ≤ z
    · have := q_le c
      refine ⟨s, h.1 c, ?_⟩
      rw [show W.toNat = z.toInt.toNat by omega]
      exact I
    · have c1 := q_nle c
      have m1 := tq_mul x (b.1 1)
      rw [hW, hK] at m1
      have m1 := nw m1 (by omega)
      have m2 := nw (tq_add (x * b.1 1) z) (by omega)
      have a := nw (tq_addr e1 z) (by omega)
      have ix : Int32.toNatClampNeg (x * b.1 1 + z) = K + z.toInt.toNat := by
        rw [tn_i]
        omega
      have at_ := RB_at (c := K + z.toInt.toNat) hf hB (by omega)
      have same := i4 (K + z.toInt.toNat) (by omega)
      rw [ix] at h
      obtain ⟨r, h, hr⟩ := flap6 (c := K + z.toInt.toNat) hf hD (RDr_c (RB_d hB) i1 ⟨i2 0 (by decide), i2 1 (by decide), i2 2 (by decide)⟩) hxx (by omega) (by omega) ((same 3).trans (at_.1 0 (by decide))) ((same 5).trans (at_.1 2 (by decide))) (by rw [i3]; exact at_.2) h0 (by omega) hq (h.2 c)
      have z1 : (z + 1).toInt.toNat = z.toInt.toNat + 1 := by omega
      have kz : ((z.toInt.toNat : Nat) : Int) = z.toInt := by omega
      have w6 : s.2.1 6 (K + z.toInt.toNat) = Int64.toInt32 (f (176 + 8 * (K + z.toInt.toNat) + 3)) := (same 6).trans (at_.1 3 (by decide))
      by_cases g : r = -1
      · have h := (h.1 g).2.2.2.2
        refine ih _ (z + 1) (by omega) (by omega) ?_ h
        rw [z1]
        refine SI_on I i1.symm rfl (fun j hj => ?_) (fun c hc j => ?_) ?_ ?_ ?_
        · show va_up (va_up s.2.1 4 _) 5 _ j = _
          rw [va_n (by omega), va_n (by omega)]
        · show va_up (va_up s.2.1 4 _) 5 _ j c = _
          by_cases q5 : j = 5
          · subst q5
            exact up_n hc
          · rw [va_n q5]
            by_cases q4 : j = 4
            · subst q4
              exact up_n hc
            · rw [va_n q4]
        · show VW f m q n0 (K + z.toInt.toNat) z.toInt.toNat (s.2.1 6 (K + z.toInt.toNat))
          rcases hr with ⟨r1, r2⟩ | ⟨r1, r2⟩
          · exact Or.inl ⟨by omega, r, r2, Or.inl ⟨g, w6⟩⟩
          · rw [r2] at g
            exact absurd g (by decide)
        · show upd (s.2.1 4) (K + z.toInt.toNat) (s.2.1 6 (K + z.toInt.toNat)) (K + z.toInt.toNat) = _
          exact up_e
        · show upd (s.2.1 5) (K + z.toInt.toNat) (s.2.1 6 (K + z.toInt.toNat)) (K + z.toInt.toNat) = _
          exact up_e
      · have h := (h.2 g).2.2.2.2.2
        refine ih _ (z + 1) (by omega) (by omega) ?_ h
        rw [z1]
        have e6 : upd (s.2.1 6) (K + z.toInt.toNat) r (K + z.toInt.toNat) = r := up_e
        refine SI_on I i1.symm rfl (fun j hj => ?_) (fun c hc j => ?_) ?_ ?_ ?_
        · show va_up (va_up (va_up s.2.1 4 _) 5 _) 6 _ j = _
          rw [va_n (by omega), va_n (by omega), va_n (by omega)]
        · show va_up (va_up (va_up s.2.1 4 _) 5 _) 6 _ j c = _
          by_cases q6 : j = 6
          · subst q6
            exact up_n hc
          · rw [va_n q6]
            by_cases q5 : j = 5
            · subst q5
              exact up_n hc
            · rw [va_n q5]
              by_cases q4 : j = 4
              · subst q4
                exact up_n hc
              · rw [va_n q4]
        · show VW f m q n0 (K + z.toInt.toNat) z.toInt.toNat (upd (s.2.1 6) (K + z.toInt.toNat) r (K + z.toInt.toNat))
          rw [e6]
          rcases hr with ⟨r1, r2⟩ | ⟨r1, r2⟩
          · exact Or.inl ⟨by omega, r, r2, Or.inr ⟨g, rfl⟩⟩
          · exact Or.inr ⟨by omega, r2⟩
        · show upd (s.2.1 4) (K + z.toInt.toNat) (upd (s.2.1 6) (K + z.toInt.toNat) r (K + z.toInt.toNat)) (K + z.toInt.toNat) = upd (s.2.1 6) (K + z.toInt.toNat) r (K + z.toInt.toNat)
          exact up_e
        · show upd (s.2.1 5) (K + z.toInt.toNat) (upd (s.2.1 6) (K + z.toInt.toNat) r (K + z.toInt.toNat)) (K + z.toInt.toNat) = upd (s.2.1 6) (K + z.toInt.toNat) r (K + z.toInt.toNat)
          exact up_e
/-! the reference: first what is wanted, then what is shown and believed -/
def WI (v0 : Md) (f : Nat → Int64) (q n0 : Int32) (K : Nat) (v : Md) (k : Nat) : Prop := FN v0 v ∧ (∀ i : Nat, (∀ j : Nat, j < k → ¬ i = 176 + 8 * (K + j) + 3) → v.2.2.1 0 i = f i) ∧ (∀ j : Nat, j < k → VW f v0 q n0 (K + j) j (Int64.toInt32 (v.2.2.1 0 (176 + 8 * (K + j) + 3))))
theorem WI_on {v0 : Md} {f : Nat → Int64} {q n0 : Int32} {K : Nat} {v u : Md} {k : Nat} (h : WI v0 f q n0 K v k) (h1 : FN v u) (h2 : ∀ i : Nat, ¬ i = 176 + 8 * (K + k) + 3 → u.2.2.1 0 i = v.2.2.1 0 i) (h3 : VW f v0 q n0 (K + k) k (Int64.toInt32 (u.2.2.1 0 (176 + 8 * (K + k) + 3)))) : WI v0 f q n0 K u (k + 1) := by
  obtain ⟨a1, a2, a3⟩ := h
  refine ⟨FN_tr a1 h1, fun i hi => ?_, fun j hj => ?_⟩
  · rw [h2 i (hi k (by omega))]
    exact a2 i (fun j hj => hi j (by omega))
  · by_cases g : j = k
    · subst g
      exact h3
    · rw [h2 _ (by omega)]
      exact a3 j (by omega)
theorem e7_wants_L {t : Tp} {v0 : Md} {f : Nat → Int64} {R W D : Int} {x q n0 : Int32} {K : Nat} {p7 : Int32 → Md → Prop} {e7 : Md → Int32 → Int32 → Int32 → Int32 → Int32 → Int32 → Prop} (hf : rw_ok R W D f) (hD : 0 < D) (hxx : RX t v0) (hK : x.toInt * W = (K : Int)) (hK2 : (K : Int) + W ≤ R * W) (hq : 0 ≤ q.toInt) (hn : 0 ≤ n0.toInt) (hqn : q.toInt + n0.toInt ≤ (v0.1 5).toInt) (hs : SG v0 q n0) : ∀ (n : Nat) (v : Md) (z5 z : Int32), 0 ≤ z.toInt → z.toInt ≤ W → WI v0 f q n0 K v z.toInt.toNat → wp_X7_wantsSigns_L6 p7 e7 n v x q n0 0 z5 z → ∃ u z5' z', e7 u x q n0 0 z5' z' ∧ WI v0 f q n0 K u W.toNat := by
  have rn := rw_n hf
  have bx := hxx.2.2
  have e1 : (1 : Int32).toInt = 1 := rfl
  intro n
  induction n with
  | zero =>
    intro v z5 z _ _ _ h
    exact (show False from h).elim
  | succ n ih =>
    intro v z5 z h0 h1 hI h
    have I := hI
    obtain ⟨i1, i2, i3⟩ := hI
    unfold wp_X7_wantsSigns_L6 at h
    have w1 : v.2.2.1 0 1 = f 1 := i2 1 (fun j _ => by omega)
    have h := wide_e h
    rw [w1] at h
    by_cases c : Int64.toInt32 (f 1) ≤ z
    · have := q_le c
      refine ⟨v, z5, z, h.1 c, ?_⟩
      rw [show W.toNat = z.toInt.toNat by omega]
      exact I
    · have c1 := q_nle c
      have h := wide_e (h.2 c)
      rw [w1] at h
      have m1 := tq_mul (Int64.toInt32 (f 1)) x
      rw [rn.2.1, Int.mul_comm, hK] at m1
      have m1 := nw m1 (by omega)
      have m2 := nw (tq_add (Int64.toInt32 (f 1) * x) z) (by omega)
      have a := nw (tq_addr e1 z) (by omega)
      have z1 : (z + 1).toInt.toNat = z.toInt.toNat + 1 := by omega
      have kz : ((z.toInt.toNat : Nat) : Int) = z.toInt := by omega
      have en : (Int64.toInt32 (f 1) * x + z).toInt.toNat = K + z.toInt.toNat := by omega
      have put : ∀ {r : Int32}, VW f v0 q n0 (K + z.toInt.toNat) z.toInt.toNat r → wp_X7_wantsFlap (fun u_8 => wp_X7_wantsSigns_L6 p7 e7 n u_8 x q n0 0 z5 (z + 1)) v (Int64.toInt32 (f 1) * x + z) r 0 → ∃ u z5' z', e7 u x q n0 0 z5' z' ∧ WI v0 f q n0 K u W.toNat := by
        intro r hr h
        unfold wp_X7_wantsFlap at h
        obtain ⟨u, k1, k2, k3⟩ := e7_sets (i := 3) (by omega) (by omega) rfl (by decide) h
        rw [en] at k3
        refine ih u z5 (z + 1) (by omega) (by omega) ?_ (k1.1 rfl)
        rw [z1]
        refine WI_on I k2 (fun i hi => ?_) ?_
        · rw [k3]
          exact uL_n hi
        · rw [k3, uL_e, t32_64]
          exact hr
      by_cases g : n0 ≤ z
      · have g1 := q_le g
        exact put (Or.inr ⟨by omega, rfl⟩) (h.1 g)
      · have g1 := q_nle g
        have h := (h.2 g).2
        have rs : RS f (v.2.2.1 0) (Int64.toInt32 (f 1) * x + z).toInt.toNat := by
          rw [en]
          exact ⟨fun i hi => i2 i (fun j _ => by omega), i2 _ (fun j _ => by omega), i2 _ (fun j _ => by omega), i2 _ (fun j _ => by omega)⟩
        obtain ⟨r, p, nv⟩ := near7 hf hD rs (by omega) (by omega) h
        rw [en] at nv
        have sg : v.2.2.2 2 (Int32.toNatClampNeg (q + z)) = tb7 v0 (q + nI z.toInt.toNat) := by
          rw [tb_sg hxx hs hq hqn (k := z.toInt.toNat) (by omega), nI_tn h0, i1.2.2.2]
        rw [sg] at nv
        by_cases y : r = -1
        · have p := p.2 y
          refine ih v (z5 + 1) (z + 1) (by omega) (by omega) ?_ p
          rw [z1]
          refine WI_on I (FN_rf v) (fun i _ => rfl) ?_
          rw [i2 _ (fun j _ => by omega)]
          exact Or.inl ⟨by omega, r, nv, Or.inl ⟨y, rfl⟩⟩
        · exact put (Or.inl ⟨by omega, r, nv, Or.inr ⟨y, rfl⟩⟩) (p.1 y)
def YI (v1 : Md) (K : Nat) (v : Md) (k : Nat) : Prop := FN v1 v ∧ (∀ i : Nat, (∀ j : Nat, j < k → ¬ i = 176 + 8 * (K + j) + 1 ∧ ¬ i = 176 + 8 * (K + j) + 2) → v.2.2.1 0 i = v1.2.2.1 0 i) ∧ (∀ j : Nat, j < k → Int64.toInt32 (v.2.2.1 0 (176 + 8 * (K + j) + 1)) = Int64.toInt32 (v1.2.2.1 0 (176 + 8 * (K + j) + 3)) ∧ Int64.toInt32 (v.2.2.1 0 (176 + 8 * (K + j) + 2)) = Int64.toInt32 (v1.2.2.1 0 (176 + 8 * (K + j) + 3)))
theorem e7_show_L {v1 : Md} {W : Int} {x : Int32} {K : Nat} {p7 : Int32 → Md → Prop} {e7 : Md → Int32 → Int32 → Int32 → Prop} (hW : (Int64.toInt32 (v1.2.2.1 0 1)).toInt = W) (hK : x.toInt * W = (K : Int)) (hK2 : (K : Int) + W ≤ 40) : ∀ (n : Nat) (v : Md) (z2 z : Int32), 0 ≤ z.toInt → z.toInt ≤ W → YI v1 K v z.toInt.toNat → wp_X7_readsRow_L62 p7 e7 n v x z2 z → ∃ u z', e7 u x z2 z' ∧ YI v1 K u W.toNat := by
  have e1 : (1 : Int32).toInt = 1 := rfl
  intro n
  induction n with
  | zero =>
    intro v z2 z _ _ _ h
    exact (show False from h).elim
  | succ n ih =>
    intro v z2 z h0 h1 hI h
    have I := hI
    obtain ⟨i1, i2, i3⟩ := hI
    unfold wp_X7_readsRow_L62 at h
    have w1 : v.2.2.1 0 1 = v1.2.2.1 0 1 := i2 1 (fun j _ => by omega)
    have h := wide_e h
    rw [w1] at h
    by_cases c : Int64.toInt32 (v1.2.2.1 0 1) ≤ z
    · have := q_le c
      refine ⟨v, z, h.1 c, ?_⟩
      rw [show W.toNat = z.toInt.toNat by omega]
      exact I
    · have c1 := q_nle c
      have h := wide_e (h.2 c)
      rw [w1] at h
      have m1 := tq_mul (Int64.toInt32 (v1.2.2.1 0 1)) x
      rw [hW, Int.mul_comm, hK] at m1
      have m1 := nw m1 (by omega)
      have m2 := nw (tq_add (Int64.toInt32 (v1.2.2.1 0 1) * x) z) (by omega)
      have a := nw (tq_addr e1 z) (by omega)
      have z1 : (z + 1).toInt.toNat = z.toInt.toNat + 1 := by omega
      have en : (Int64.toInt32 (v1.2.2.1 0 1) * x + z).toInt.toNat = K + z.toInt.toNat := by omega
      have h := e7_of (i := 3) (by omega) (by omega) rfl (by decide) h
      obtain ⟨u, h, k2, k3⟩ := e7_sets (i := 1) (by omega) (by omega) rfl (by decide) h
      have h := e7_of (i := 3) (by omega) (by omega) rfl (by decide) h
      obtain ⟨w, h, k5, k6⟩ := e7_sets (i := 2) (by omega) (by omega) rfl (by decide) h
      rw [en] at k3 k6
      have o3 : v.2.2.1 0 (176 + 8 * (K + z.toInt.toNat) + 3) = v1.2.2.1 0 (176 + 8 * (K + z.toInt.toNat) + 3) := i2 _ (fun j _ => by omega)
      have u3 : u.2.2.1 0 (176 + 8 * (K + z.toInt.toNat) + 3) = v1.2.2.1 0 (176 + 8 * (K + z.toInt.toNat) + 3) := by
        rw [k3, uL_n (by omega)]
        exact o3
      rw [u3] at k6
      rw [o3] at k3
      refine ih w z2 (z + 1) (by omega) (by omega) ?_ h
      rw [z1]
      refine ⟨FN_tr i1 (FN_tr k2 k5), fun i hi => ?_, fun j hj => ?_⟩
      · have hk := hi z.toInt.toNat (by omega)
        rw [k6, uL_n hk.2, k3, uL_n hk.1]
        exact i2 i (fun j hj => hi j (by omega))
      · by_cases g : j = z.toInt.toNat
        · subst g
          constructor
          · rw [k6, uL_n (by omega), k3, uL_e, t32_64]
          · rw [k6, uL_e, t32_64]
        · constructor
          · rw [k6, uL_n (by omega), k3, uL_n (by omega)]
            exact (i3 j (by omega)).1
          · rw [k6, uL_n (by omega), k3, uL_n (by omega)]
            exact (i3 j (by omega)).2
theorem sm_readRow {P6 : Bd → Tp → Prop} {P7 : Int32 → Md → Prop} {b : Bd} {t : Tp} {v : Md} {R W D : Int} (hR : RT t ((va_up v.1 6 ((v.1 6) + 3)), v.2.1, v.2.2.1, v.2.2.2)) (hB : RB b (v.2.2.1 0)) (hf : rw_ok R W D (v.2.2.1 0)) (hD : 0 < D) (h6 : wp_X1_readRow P6 b t) (h7 : wp_X7_readsRow P7 v) : ∃ b' t' r v', P6 b' t' ∧ P7 r v' ∧ OUT b' t' r v' := by
  have rn := rw_n hf
  have e1 : (1 : Int32).toInt = 1 := rfl
  have e0 : (0 : Int32).toInt = 0 := rfl
  unfold wp_X1_readRow at h6
  unfold wp_X7_readsRow at h7
  have h7 := rows_e h7
  have h7 : wp_X7_readsNumber _ _ (0 : Int32) (Int64.toInt32 (v.2.2.1 0 0) - 1) := h7
  have s1 := nw (tq_subr e1 (Int64.toInt32 (v.2.2.1 0 0))) (by omega)
  rw [hB.1.1, hB.1.2.1] at h6
  obtain ⟨r1, u1, r7, v1, a1, a2, a3, a4⟩ := sm_number hR (by decide) (by omega) h6 h7
  rcases a4 with ⟨rfl, a4, a5, a6, a7, _⟩ | ⟨rfl, a4⟩
  · have fv1 : v1.2 = v.2 := a3.2.2.2
    have h7 := wide_e (a2.1 (by decide))
    rw [fv1, ← a5] at h7
    rw [e0] at a6
    obtain ⟨u2, r8, v2, b1, b2, b3, b4⟩ := sm_quoted a4 (by decide) (by omega) (by omega) a1 h7
    have fv2 : v2.2 = v.2 := b3.2.2.2.trans fv1
    rcases b4 with ⟨rfl, b4, c1, c2, c3, c4, c5, c6, c7⟩ | ⟨rfl, b4⟩
    · have k6 := ((e5_isSound b1).1 b4.2.2.2.2).2 (by decide)
      have k7 := b2.1 (by decide)
      rw [c1, c2] at k6
      rw [e0] at c3
      have bb := b4.1.2.2
      obtain ⟨K, hK⟩ : ∃ K : Nat, r1.toInt * W = (K : Int) := ⟨(r1.toInt * W).toNat, by
        have := Int.mul_nonneg a6 (show 0 ≤ W by omega)
        omega⟩
      have hK2 : (K : Int) + W ≤ R * W := by
        rw [← hK, show r1.toInt * W + W = (r1.toInt + 1) * W by rw [Int.add_mul, Int.one_mul]]
        exact Int.mul_le_mul_of_nonneg_right (by omega) (by omega)
      -- the class
      unfold wp_X0_showSigns at k6
      obtain ⟨n6, k6⟩ := k6
      have bW : (b.1 1).toInt = W := by rw [hB.1.2.1]; exact rn.2.1
      obtain ⟨w, d1, d2⟩ := e0_show_L (K := K) hf hD hB b4.1 bW hK hK2 (by omega) n6 b 0 (by decide) (by omega) ⟨rfl, fun _ _ => rfl, rfl, fun _ _ _ => rfl, fun i hi => by
        have : i < 0 := hi
        omega⟩ k6
      -- the reference
      unfold wp_X7_wantsSigns at k7
      obtain ⟨n7, k7⟩ := k7
      have fr : v2.2.2.1 0 = v.2.2.1 0 := by rw [fv2]
      obtain ⟨y, z5, z, g1, g2⟩ := e7_wants_L (f := v.2.2.1 0) (K := K) hf hD b4.1 hK hK2 c5 (by omega) c6.1 c7 n7 v2 0 0 (by decide) (by omega) ⟨FN_rf v2, fun i _ => by rw [fr], fun j hj => by
        have : j < 0 := hj
        omega⟩ k7
      obtain ⟨n8, g1⟩ := g1
      have yW : (Int64.toInt32 (y.2.2.1 0 1)).toInt = W := by
        rw [g2.2.1 1 (fun j _ => by omega)]
        exact rn.2.1
      obtain ⟨y2, z2, j1, j2⟩ := e7_show_L (v1 := y) (K := K) yW hK (by omega) n8 y _ 0 (by decide) (by omega) ⟨FN_rf y, fun _ _ => rfl, fun j hj => by
        have : j < 0 := hj
        omega⟩ g1
      refine ⟨w, u2, 1, y2, d1, j1, Or.inl ⟨rfl, RT_fn b4 (FN_tr g2.1 j2.1), ?_⟩⟩
      obtain ⟨x1, x2, x3, x4, x5⟩ := d2
      obtain ⟨_, y3, y4⟩ := g2
      obtain ⟨_, w3, w4⟩ := j2
      have low : ∀ i : Nat, i < 176 → y2.2.2.1 0 i = v.2.2.1 0 i := fun i hi => by
        rw [w3 i (fun j _ => by omega), y3 i (fun j _ => by omega)]
      obtain ⟨p0, p1, p2⟩ := hB
      refine ⟨by rw [x1, low 0 (by decide), low 1 (by decide), low 2 (by decide), low 3 (by decide)]; exact p0, ⟨by rw [low 3 (by decide), low 0 (by decide), low 1 (by decide)]; exact p1.1, fun e he => ?_⟩, fun c hc => ?_⟩
      · rw [low 3 (by decide)] at he
        have q0 := p1.1
        obtain ⟨q4, q1, q2, q3⟩ := p1.2 e he
        have q40 := q4.1
        have ed : d_f (y2.2.2.1 0) e = d_f (v.2.2.1 0) e := by
          unfold d_f
          rw [low _ (by omega)]
        rw [ed, x2 0 (by decide), x2 1 (by decide), x2 2 (by decide), low (8 + 42 * e) (by omega), low (8 + 42 * e + 1) (by omega)]
        refine ⟨DG_k q4 (fun i h1 h2 => low i (by omega)), q1, q2, fun k hk => ?_⟩
        rw [low _ (by omega)]
        exact q3 k hk
      · rw [low 0 (by decide), low 1 (by decide)] at hc
        obtain ⟨q1, q2⟩ := p2 c hc
        rw [hf.1, hf.2.1] at hc
        by_cases rg : K ≤ c ∧ (c : Int) < (K : Int) + W
        · obtain ⟨i, hi⟩ : ∃ i : Nat, c = K + i := ⟨c - K, by omega⟩
          subst hi
          obtain ⟨s1, s2, s3⟩ := x5 i (by omega)
          have t1 := y4 i (by omega)
          obtain ⟨t2, t3⟩ := w4 i (by omega)
          have ew : w.2.1 6 (K + i) = Int64.toInt32 (y.2.2.1 0 (176 + 8 * (K + i) + 3)) := VW_u (s := v2) hf hD hc s1 t1
          have k3 : y2.2.2.1 0 (176 + 8 * (K + i) + 3) = y.2.2.1 0 (176 + 8 * (K + i) + 3) := w3 _ (fun j _ => by omega)
          have old : ∀ j : Nat, j = 0 ∨ (4 ≤ j ∧ j < 8) → y2.2.2.1 0 (176 + 8 * (K + i) + j) = v.2.2.1 0 (176 + 8 * (K + i) + j) := fun j hj => by
            rw [w3 _ (fun j2 _ => by omega), y3 _ (fun j2 _ => by omega)]
          refine ⟨fun j hj => ?_, ?_⟩
          · rcases (show j = 0 ∨ j = 1 ∨ j = 2 ∨ j = 3 ∨ j = 4 ∨ j = 5 ∨ j = 6 by omega) with rfl | rfl | rfl | rfl | rfl | rfl | rfl
            · rw [old 0 (Or.inl rfl), x2 3 (by decide)]
              exact q1 0 (by decide)
            · show w.2.1 4 (K + i) = _
              rw [t2, s2, ew]
            · show w.2.1 5 (K + i) = _
              rw [t3, s3, ew]
            · show w.2.1 6 (K + i) = _
              rw [k3, ew]
            · rw [old 4 (by omega), x2 7 (by decide)]
              exact q1 4 (by decide)
            · rw [old 5 (by omega), x2 8 (by decide)]
              exact q1 5 (by decide)
            · rw [old 6 (by omega), x2 9 (by decide)]
              exact q1 6 (by decide)
          · rw [old 7 (by omega), x3]
            exact q2
        · have old : ∀ j : Nat, j < 8 → y2.2.2.1 0 (176 + 8 * c + j) = v.2.2.1 0 (176 + 8 * c + j) := fun j hj => by
            rw [w3 _ (fun j2 _ => by omega), y3 _ (fun j2 _ => by omega)]
          refine ⟨fun j hj => ?_, ?_⟩
          · rw [old j (by omega), x4 c (by omega)]
            exact q1 j hj
          · rw [old 7 (by omega), x3]
            exact q2
    · exact ⟨b, u2, 0, v2, (fa_sound b4 b1).1 rfl, b2.2 rfl, Or.inr ⟨rfl, b4⟩⟩
  · obtain ⟨u2, b1, b4⟩ := fa_quo a4 a1
    exact ⟨b, u2, 0, v1, (fa_sound b4 b1).1 rfl, a2.2 rfl, Or.inr ⟨rfl, b4⟩⟩
