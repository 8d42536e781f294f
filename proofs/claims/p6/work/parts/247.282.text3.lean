/-! Words. -/
def LT (b : Int32) : Prop := 97 ≤ b.toInt ∧ b.toInt ≤ 122
theorem nI_tn {z : Int32} (h : 0 ≤ z.toInt) : nI z.toInt.toNat = z := Int32.toInt_inj.mp (by
  have := tq_r z
  rw [nI_toInt (by omega)]
  omega)
theorem qk {q : Int32} {k : Nat} (h0 : 0 ≤ q.toInt) (h1 : q.toInt ≤ 1000) (h2 : k ≤ 1000) : (q + nI k).toInt = q.toInt + (k : Int) := by
  have e := nI_toInt (n := k) (by omega)
  rw [nw (tq_add q (nI k)) (by omega), e]
theorem e_len {P : Int32 → Prop} {i : Nat} (h : wp_J0_length_8abf5 P i) : ∃ r, P r ∧ r.toInt = ln i := by
  obtain ⟨r, a, b⟩ := dt_both (dt_J0_length_8abf5 i) (P := P) (Q := fun r => r.toInt = ln i) h (wq_J0_length_8abf5 (fun r a _ => a))
  exact ⟨r, a, b⟩
theorem e_char {P : Int32 → Prop} {i : Nat} {x : Int32} (hx : 0 ≤ x.toInt ∧ x.toInt < ln i) (h : wp_J0_charAt_5068e P i x) : P (chv i x.toInt.toNat) := by
  obtain ⟨r, a, b⟩ := dt_both (dt_J0_charAt_5068e i x) (P := P) (Q := fun r => r = chv i x.toInt.toNat) h (wq_X7_charAtF hx (fun r _ a => a))
  rw [← b]
  exact a
theorem lnn (i : Nat) : 0 ≤ ln i ∧ ln i ≤ 6 := by
  have := st_le i
  unfold ln
  omega
/-! the reference's test of a word at a place -/
theorem e7_isW_L {i : Nat} {q : Int32} {v : Md} {p7 : Int32 → Md → Prop} {e7 : Md → Int32 → Int32 → Prop} : ∀ (n : Nat) (z : Int32), 0 ≤ z.toInt → z.toInt ≤ ln i → (∀ k : Nat, (k : Int) < z.toInt → tb7 v (q + nI k) = chv i k) → wp_X7_isWord_L22 i p7 e7 n v q z → ∃ z', e7 v q z' ∧ 0 ≤ z'.toInt ∧ z'.toInt ≤ ln i ∧ (∀ k : Nat, (k : Int) < z'.toInt → tb7 v (q + nI k) = chv i k) ∧ (z'.toInt = ln i ∨ ¬ tb7 v (q + z') = chv i z'.toInt.toNat) := by
  have l := lnn i
  have e1 : (1 : Int32).toInt = 1 := rfl
  intro n
  induction n with
  | zero =>
    intro z _ _ _ h
    exact (show False from h).elim
  | succ n ih =>
    intro z h0 h1 hk h
    unfold wp_X7_isWord_L22 at h
    obtain ⟨r, h, hr⟩ := e_len h
    by_cases c : r ≤ z
    · have := q_le c
      exact ⟨z, h.1 c, h0, h1, hk, Or.inl (by omega)⟩
    · have c1 := q_nle c
      have h := e_char (x := z) (i := i) (by omega) (e7_byteAt (h.2 c))
      by_cases d : tb7 v (q + z) = chv i z.toInt.toNat
      · have a := nw (tq_addr e1 z) (by omega)
        refine ih (z + 1) (by omega) (by omega) (fun k g => ?_) (h.2 d)
        by_cases f : (k : Int) < z.toInt
        · exact hk k f
        · have ek : k = z.toInt.toNat := by omega
          rw [ek, nI_tn h0]
          exact d
      · exact ⟨z, h.1 d, h0, h1, hk, Or.inr d⟩
theorem e7_isW_Lb {i : Nat} {q : Int32} {v : Md} {p7 : Int32 → Md → Prop} {e7 : Md → Int32 → Int32 → Prop} : ∀ (n : Nat) (z : Int32), 0 ≤ z.toInt → z.toInt ≤ ln i → (∀ k : Nat, (k : Int) < z.toInt → tb7 v (q + nI k) = chv i k) → wp_X7_isWord_L22b i p7 e7 n v q z → ∃ z', e7 v q z' ∧ 0 ≤ z'.toInt ∧ z'.toInt ≤ ln i ∧ (∀ k : Nat, (k : Int) < z'.toInt → tb7 v (q + nI k) = chv i k) ∧ (z'.toInt = ln i ∨ ¬ tb7 v (q + z') = chv i z'.toInt.toNat) := by
  have l := lnn i
  have e1 : (1 : Int32).toInt = 1 := rfl
  intro n
  induction n with
  | zero =>
    intro z _ _ _ h
    exact (show False from h).elim
  | succ n ih =>
    intro z h0 h1 hk h
    unfold wp_X7_isWord_L22b at h
    obtain ⟨r, h, hr⟩ := e_len h
    by_cases c : r ≤ z
    · have := q_le c
      exact ⟨z, h.1 c, h0, h1, hk, Or.inl (by omega)⟩
    · have c1 := q_nle c
      have h := e_char (x := z) (i := i) (by omega) (e7_byteAt (h.2 c))
      by_cases d : tb7 v (q + z) = chv i z.toInt.toNat
      · have a := nw (tq_addr e1 z) (by omega)
        refine ih (z + 1) (by omega) (by omega) (fun k g => ?_) (h.2 d)
        by_cases f : (k : Int) < z.toInt
        · exact hk k f
        · have ek : k = z.toInt.toNat := by omega
          rw [ek, nI_tn h0]
          exact d
      · exact ⟨z, h.1 d, h0, h1, hk, Or.inr d⟩
theorem e7_isW_end {P : Int32 → Md → Prop} {i : Nat} {v : Md} {z : Int32} (h0 : 0 ≤ z.toInt) (h1 : z.toInt ≤ ln i) (hk : ∀ k : Nat, (k : Int) < z.toInt → tb7 v (v.1 6 + nI k) = chv i k) (hz : z.toInt = ln i ∨ ¬ tb7 v (v.1 6 + z) = chv i z.toInt.toNat) (h : wp_J0_length_8abf5 (fun r_12 => ((¬ z = r_12 → P 0 v) ∧ (z = r_12 → wp_X7_byteAt (fun r_15 => wp_X7_in (fun r_17 => ((¬ r_17 = 0 → P 0 v) ∧ (r_17 = 0 → P 1 v))) (Int32.toInt64 r_15) (97 : Int64) (122 : Int64)) v (v.1 6 + z)))) i) : (P 1 v ∧ wd_y v i) ∨ (P 0 v ∧ ¬ wd_y v i) := by
  obtain ⟨r, h, hr⟩ := e_len h
  have ll : ln i = ((st_len.getD i 0 : Nat) : Int) := rfl
  by_cases c : z = r
  · have cz : z.toInt = ln i := by rw [c]; exact hr
    have ez : nI (st_len.getD i 0) = z := by
      rw [← nI_tn h0]
      congr 1
      omega
    have hm : wd_m v i (st_len.getD i 0) := fun k g => hk k (by omega)
    have h := e7_inC (i := 97) (j := 122) rfl rfl (e7_byteAt (h.2 c))
    unfold wd_y
    rw [ez]
    rcases h with ⟨h, a, b⟩ | ⟨h, a⟩
    · exact Or.inr ⟨h.1 (by decide), fun g => g.2 ⟨a, b⟩⟩
    · exact Or.inl ⟨h.2 rfl, hm, fun g => by omega⟩
  · have cz : z.toInt < ln i := by
      have : ¬ z.toInt = r.toInt := fun g => c (Int32.toInt_inj.mp g)
      omega
    refine Or.inr ⟨h.1 c, fun g => ?_⟩
    rcases hz with hz | hz
    · omega
    · have := g.1 z.toInt.toNat (by omega)
      rw [nI_tn h0] at this
      exact hz this
theorem e7_isW_rest {P : Int32 → Md → Prop} {i : Nat} {v : Md} (hs : (v.1 6).toInt ≤ (v.1 5).toInt) (h : ((¬ tb7 v (v.1 6) = (-1) → (∃ n22, wp_X7_isWord_L22 i P (fun t0 z2 z3 => wp_J0_length_8abf5 (fun r_12 => ((¬ z3 = r_12 → P 0 t0) ∧ (z3 = r_12 → wp_X7_byteAt (fun r_15 => wp_X7_in (fun r_17 => ((¬ r_17 = 0 → P 0 t0) ∧ (r_17 = 0 → P 1 t0))) (Int32.toInt64 r_15) (97 : Int64) (122 : Int64)) t0 (z2 + z3)))) i) n22 v (v.1 6) 0)) ∧ (tb7 v (v.1 6) = (-1) → (∃ n22, wp_X7_isWord_L22b i P (fun t0 z2 z3 => wp_J0_length_8abf5 (fun r_28 => ((¬ z3 = r_28 → P 0 t0) ∧ (z3 = r_28 → wp_X7_byteAt (fun r_31 => wp_X7_in (fun r_33 => ((¬ r_33 = 0 → P 0 t0) ∧ (r_33 = 0 → P 1 t0))) (Int32.toInt64 r_31) (97 : Int64) (122 : Int64)) t0 (z2 + z3)))) i) n22 v (v.1 5) 0)))) : (P 1 v ∧ wd_y v i) ∨ (P 0 v ∧ ¬ wd_y v i) := by
  have l := lnn i
  have e0 : (0 : Int32).toInt = 0 := rfl
  by_cases c : tb7 v (v.1 6) = -1
  · obtain ⟨n, h⟩ := h.2 c
    have e65 : v.1 5 = v.1 6 := Int32.toInt_inj.mp (by
      rcases tb7_r v (v.1 6) with g | g
      · have := q_le g.1
        omega
      · rw [c] at g
        exact absurd g.2.1 (by decide))
    rw [e65] at h
    obtain ⟨z, a, b, d, e, f⟩ := e7_isW_Lb n 0 (by omega) (by omega) (fun k g => by omega) h
    exact e7_isW_end b d e f a
  · obtain ⟨n, h⟩ := h.1 c
    obtain ⟨z, a, b, d, e, f⟩ := e7_isW_L n 0 (by omega) (by omega) (fun k g => by omega) h
    exact e7_isW_end b d e f a
theorem e7_next {P : Int32 → Md → Prop} {v : Md} (hb : ¬ tb7 v (v.1 6) = 32) (h : wp_X7_nextByte P v) : P (tb7 v (v.1 6)) v := by
  unfold wp_X7_nextByte at h
  obtain ⟨n, h⟩ := h
  cases n with
  | zero => exact (show False from h).elim
  | succ n =>
    unfold wp_X7_nextByte_L0 at h
    exact e7_byteAt ((e7_byteAt h).1 hb)
theorem e7_isWord {P : Int32 → Md → Prop} {i : Nat} {v : Md} (hs : (v.1 6).toInt ≤ (v.1 5).toInt) (hb : ¬ tb7 v (v.1 6) = 32) (h : wp_X7_isWord P v i) : (P 1 v ∧ wd_y v i) ∨ (P 0 v ∧ ¬ wd_y v i) := by
  unfold wp_X7_isWord at h
  exact e7_isW_rest hs (e7_next hb h)
/-! the class's word -/
def RD (t : Tp) (i : Nat) : Prop := ln i = (t.1 1).toInt - (t.1 2).toInt ∧ ∀ k : Nat, (k : Int) < ln i → t.2 (Int32.toNatClampNeg (t.1 2 + nI k)) = chv i k
theorem e5_isRead_L {t : Tp} {i : Nat} {p6 : Int32 → Prop} {e6 : Int32 → Prop} : ∀ (n : Nat) (z : Int32), 0 ≤ z.toInt → z.toInt ≤ ln i → (∀ k : Nat, (k : Int) < z.toInt → t.2 (Int32.toNatClampNeg (t.1 2 + nI k)) = chv i k) → wp_X5_isRead_L20 t i p6 e6 n z → ((∃ z', e6 z') ∧ ∀ k : Nat, (k : Int) < ln i → t.2 (Int32.toNatClampNeg (t.1 2 + nI k)) = chv i k) ∨ (p6 0 ∧ ¬ ∀ k : Nat, (k : Int) < ln i → t.2 (Int32.toNatClampNeg (t.1 2 + nI k)) = chv i k) := by
  have l := lnn i
  have e1 : (1 : Int32).toInt = 1 := rfl
  intro n
  induction n with
  | zero =>
    intro z _ _ _ h
    exact (show False from h).elim
  | succ n ih =>
    intro z h0 h1 hk h
    unfold wp_X5_isRead_L20 at h
    obtain ⟨r, h, hr⟩ := e_len h
    by_cases c : r ≤ z
    · have := q_le c
      exact Or.inl ⟨⟨z, h.1 c⟩, fun k g => hk k (by omega)⟩
    · have c1 := q_nle c
      have h := (e_char (x := z) (i := i) (by omega) (h.2 c)).2
      by_cases d : chv i z.toInt.toNat = t.2 (Int32.toNatClampNeg (t.1 2 + z))
      · have a := nw (tq_addr e1 z) (by omega)
        refine ih (z + 1) (by omega) (by omega) (fun k g => ?_) (h.1 d)
        by_cases f : (k : Int) < z.toInt
        · exact hk k f
        · have ek : k = z.toInt.toNat := by omega
          rw [ek, nI_tn h0]
          exact d.symm
      · refine Or.inr ⟨h.2 d, fun g => d ?_⟩
        have := g z.toInt.toNat (by omega)
        rw [nI_tn h0] at this
        exact this.symm
theorem e5_isRead {P : Int32 → Prop} {t : Tp} {i : Nat} (h0 : 0 ≤ (t.1 2).toInt) (h1 : (t.1 2).toInt ≤ (t.1 1).toInt) (h : wp_X5_isRead P t i) : (P 1 ∧ RD t i) ∨ (P 0 ∧ ¬ RD t i) := by
  have l := lnn i
  have e0 : (0 : Int32).toInt = 0 := rfl
  unfold wp_X5_isRead at h
  obtain ⟨r, h, hr⟩ := e_len h
  have s1 := nw (tq_sub (t.1 1) (t.1 2)) (by have := tq_r (t.1 1); omega)
  by_cases c : r = (t.1 1) - (t.1 2)
  · have c1 := q_eq c
    obtain ⟨n, h⟩ := h.1 c
    rcases e5_isRead_L n 0 (by omega) (by omega) (fun k g => by omega) h with ⟨⟨z, a⟩, b⟩ | ⟨a, b⟩
    · exact Or.inl ⟨a, by omega, b⟩
    · exact Or.inr ⟨a, fun g => b g.2⟩
  · refine Or.inr ⟨h.2 c, fun g => c (Int32.toInt_inj.mp ?_)⟩
    have := g.1
    omega
theorem e5_wordRead {P : Int32 → Prop} {t : Tp} (h0 : 0 ≤ (t.1 2).toInt) (h1 : (t.1 2).toInt ≤ (t.1 1).toInt) (h : wp_X5_wordRead P t) : ∃ r, P r ∧ ((∃ i : Nat, i < 12 ∧ r.toInt = (i : Int) + 1 ∧ RD t i) ∨ (r = 0 ∧ ∀ i, i < 12 → ¬ RD t i)) := by
  unfold wp_X5_wordRead at h
  rcases e5_isRead h0 h1 h with ⟨h, a0⟩ | ⟨h, a0⟩
  · exact ⟨1, h.2 (by decide), Or.inl ⟨0, by decide, rfl, a0⟩⟩
  rcases e5_isRead h0 h1 (h.1 rfl) with ⟨h, a1⟩ | ⟨h, a1⟩
  · exact ⟨2, h.2 (by decide), Or.inl ⟨1, by decide, rfl, a1⟩⟩
  rcases e5_isRead h0 h1 (h.1 rfl) with ⟨h, a2⟩ | ⟨h, a2⟩
  · exact ⟨3, h.2 (by decide), Or.inl ⟨2, by decide, rfl, a2⟩⟩
  rcases e5_isRead h0 h1 (h.1 rfl) with ⟨h, a3⟩ | ⟨h, a3⟩
  · exact ⟨4, h.2 (by decide), Or.inl ⟨3, by decide, rfl, a3⟩⟩
  rcases e5_isRead h0 h1 (h.1 rfl) with ⟨h, a4⟩ | ⟨h, a4⟩
  · exact ⟨5, h.2 (by decide), Or.inl ⟨4, by decide, rfl, a4⟩⟩
  rcases e5_isRead h0 h1 (h.1 rfl) with ⟨h, a5⟩ | ⟨h, a5⟩
  · exact ⟨6, h.2 (by decide), Or.inl ⟨5, by decide, rfl, a5⟩⟩
  rcases e5_isRead h0 h1 (h.1 rfl) with ⟨h, a6⟩ | ⟨h, a6⟩
  · exact ⟨7, h.2 (by decide), Or.inl ⟨6, by decide, rfl, a6⟩⟩
  rcases e5_isRead h0 h1 (h.1 rfl) with ⟨h, a7⟩ | ⟨h, a7⟩
  · exact ⟨8, h.2 (by decide), Or.inl ⟨7, by decide, rfl, a7⟩⟩
  rcases e5_isRead h0 h1 (h.1 rfl) with ⟨h, a8⟩ | ⟨h, a8⟩
  · exact ⟨9, h.2 (by decide), Or.inl ⟨8, by decide, rfl, a8⟩⟩
  rcases e5_isRead h0 h1 (h.1 rfl) with ⟨h, a9⟩ | ⟨h, a9⟩
  · exact ⟨10, h.2 (by decide), Or.inl ⟨9, by decide, rfl, a9⟩⟩
  rcases e5_isRead h0 h1 (h.1 rfl) with ⟨h, a10⟩ | ⟨h, a10⟩
  · exact ⟨11, h.2 (by decide), Or.inl ⟨10, by decide, rfl, a10⟩⟩
  rcases e5_isRead h0 h1 (h.1 rfl) with ⟨h, a11⟩ | ⟨h, a11⟩
  · exact ⟨12, h.2 (by decide), Or.inl ⟨11, by decide, rfl, a11⟩⟩
  refine ⟨0, h.1 rfl, Or.inr ⟨rfl, fun i hi => ?_⟩⟩
  rcases (show i = 0 ∨ i = 1 ∨ i = 2 ∨ i = 3 ∨ i = 4 ∨ i = 5 ∨ i = 6 ∨ i = 7 ∨ i = 8 ∨ i = 9 ∨ i = 10 ∨ i = 11 by omega) with rfl | rfl | rfl | rfl | rfl | rfl | rfl | rfl | rfl | rfl | rfl | rfl <;> assumption
theorem e5_word_L {p6 : Int32 → Tp → Prop} {e6 : Tp → Prop} : ∀ (n : Nat) (t : Tp), 0 ≤ (t.1 1).toInt → (t.1 1).toInt ≤ (t.1 0).toInt → (t.1 0).toInt ≤ 400 → wp_X5_takeWord_L13 p6 e6 n t → ∃ u, e6 u ∧ ie [1] u.1 t.1 ∧ u.2 = t.2 ∧ (t.1 1).toInt ≤ (u.1 1).toInt ∧ (u.1 1).toInt ≤ (t.1 0).toInt ∧ (∀ k : Nat, (k : Int) < (u.1 1).toInt - (t.1 1).toInt → LT (tb5 t (t.1 1 + nI k))) ∧ ¬ LT (tb5 t (u.1 1)) := by
  have e1 : (1 : Int32).toInt = 1 := rfl
  have e97 : (97 : Int32).toInt = 97 := rfl
  have e122 : (122 : Int32).toInt = 122 := rfl
  intro n
  induction n with
  | zero =>
    intro t _ _ _ h
    exact (show False from h).elim
  | succ n ih =>
    intro t h0 h1 h2 h
    unfold wp_X5_takeWord_L13 at h
    by_cases c : t.1 0 ≤ t.1 1
    · refine ⟨t, h.1 c, ie_refl _ _, rfl, Int.le_refl _, h1, fun k g => by omega, fun g => ?_⟩
      have : tb5 t (t.1 1) = -1 := by
        unfold tb5
        rw [if_pos c]
      rw [this] at g
      exact absurd g.1 (by decide)
    · have c1 := q_nle c
      have k1 := e5_byteAt h0 (h.2 c)
      by_cases d : tb5 t (t.1 1) < 97
      · have := q_lt d
        exact ⟨t, k1.1 d, ie_refl _ _, rfl, Int.le_refl _, h1, fun k g => by omega, fun g => by have := g.1; omega⟩
      · have d1 := q_nlt d
        have k2 := e5_byteAt h0 (k1.2 d)
        by_cases f : 122 < tb5 t (t.1 1)
        · have := q_lt f
          exact ⟨t, k2.1 f, ie_refl _ _, rfl, Int.le_refl _, h1, fun k g => by omega, fun g => by have := g.2; omega⟩
        · have f1 := q_nlt f
          have a := nw (tq_addr e1 (t.1 1)) (by omega)
          obtain ⟨u, a1, a2, a3, a4, a5, a6, a7⟩ := ih ((va_up t.1 1 ((t.1 1) + 1)), t.2) (show 0 ≤ (t.1 1 + 1).toInt by omega) (show (t.1 1 + 1).toInt ≤ (t.1 0).toInt by omega) h2 (k2.2 f)
          have a4 : (t.1 1 + 1).toInt ≤ (u.1 1).toInt := a4
          have a5 : (u.1 1).toInt ≤ (t.1 0).toInt := a5
          refine ⟨u, a1, ie_tr a2 (by decide) (ie_up (ie_refl _ _) (by decide)), a3, by omega, a5, fun k g => ?_, a7⟩
          cases k with
          | zero =>
            have : t.1 1 + nI 0 = t.1 1 := Int32.add_zero _
            rw [this]
            exact ⟨by omega, by omega⟩
          | succ k =>
            have a6 := a6 k (show (k : Int) < (u.1 1).toInt - (t.1 1 + 1).toInt by omega)
            have e : (t.1 1 + 1) + nI k = t.1 1 + nI (k + 1) := Int32.toInt_inj.mp (by
              rw [qk (by omega) (by omega) (by omega), qk (by omega) (by omega) (by omega)]
              omega)
            have a6 : LT (tb5 t ((t.1 1 + 1) + nI k)) := a6
            rw [e] at a6
            exact a6
def CW (r : Int32) (u : Tp) (v : Md) : Prop := RX u v ∧ u.1 2 = v.1 6 ∧ 0 ≤ (v.1 6).toInt ∧ (v.1 6).toInt ≤ (v.1 5).toInt ∧ u.1 5 = 0 ∧ (0 ≤ r.toInt ∧ r.toInt ≤ 12) ∧ (∀ i : Nat, i < 12 → (r.toInt = (i : Int) + 1 ↔ wd_y v i)) ∧ (∀ i : Nat, i < 12 → wd_y v i → u.1 1 = v.1 6 + nI (st_len.getD i 0) ∧ (v.1 6).toInt + ln i ≤ (v.1 5).toInt)
theorem wd_uniq : ∀ i, i < 12 → ∀ j, j < 12 → st_len.getD i 0 = st_len.getD j 0 → (∀ k, k < st_len.getD i 0 → chv i k = chv j k) → i = j := by decide +kernel
theorem RD_wd {u : Tp} {v : Md} {i : Nat} (hi : i < 12) (hx : RX u v) (h2 : u.1 2 = v.1 6) (h0 : 0 ≤ (v.1 6).toInt) (h1 : (v.1 6).toInt ≤ (u.1 1).toInt) (hN : (u.1 1).toInt ≤ (v.1 5).toInt) (hl : ∀ k : Nat, (k : Int) < (u.1 1).toInt - (v.1 6).toInt → LT (tb7 v (v.1 6 + nI k))) (hn : ¬ LT (tb7 v (u.1 1))) : RD u i ↔ wd_y v i := by
  have b := hx.2.2
  have l := lnn i
  have ll : ln i = ((st_len.getD i 0 : Nat) : Int) := rfl
  have by_ : ∀ k : Nat, (v.1 6).toInt + (k : Int) < (v.1 5).toInt → u.2 (Int32.toNatClampNeg (u.1 2 + nI k)) = tb7 v (v.1 6 + nI k) := fun k g => by
    rw [← tb_eq hx, ← h2]
    unfold tb5
    rw [if_neg]
    intro f
    have f1 := q_le f
    rw [hx.1, h2, qk (by omega) (by omega) (by omega)] at f1
    omega
  unfold RD wd_y wd_m
  constructor
  · intro ⟨a, c⟩
    rw [h2] at a
    have ep : v.1 6 + nI (st_len.getD i 0) = u.1 1 := Int32.toInt_inj.mp (by
      rw [qk (by omega) (by omega) (by omega)]
      omega)
    refine ⟨fun k g => ?_, ?_⟩
    · rw [← by_ k (by omega)]
      exact c k (by omega)
    · rw [ep]
      exact hn
  · intro ⟨a, c⟩
    have e : ln i = (u.1 1).toInt - (v.1 6).toInt := by
      by_cases g : (u.1 1).toInt - (v.1 6).toInt < ln i
      · exfalso
        have k := a ((u.1 1).toInt - (v.1 6).toInt).toNat (by omega)
        have ep : v.1 6 + nI ((u.1 1).toInt - (v.1 6).toInt).toNat = u.1 1 := Int32.toInt_inj.mp (by
          rw [qk (by omega) (by omega) (by omega)]
          omega)
        rw [ep] at k
        refine hn ?_
        rw [k]
        exact ch_b i hi _ (by omega)
      · by_cases f : ln i < (u.1 1).toInt - (v.1 6).toInt
        · exact absurd (hl (st_len.getD i 0) (by omega)) c
        · omega
    refine ⟨by rw [h2]; exact e, fun k g => ?_⟩
    rw [by_ k (by omega)]
    exact a k (by omega)
theorem sm_word_core {P6 : Int32 → Tp → Prop} {u : Tp} {v : Md} {n6 : Nat} (a3 : RT u v) (h6 : wp_X5_takeWord_L13 P6 (fun t0 => wp_X5_wordRead (fun r_10 => P6 r_10 t0) t0) n6 ((va_up u.1 2 (u.1 1)), u.2)) : ∃ r w, P6 r w ∧ FR u w v v ∧ CW r w v := by
  have bb := a3.1.2.2
  have bc := a3.2.2
  obtain ⟨w0, hw0⟩ : ∃ x : Tp, x = ((va_up u.1 2 (u.1 1)), u.2) := ⟨_, rfl⟩
  rw [← hw0] at h6
  have r0 : RT w0 v := by rw [hw0]; exact a3
  have e2 : w0.1 2 = w0.1 1 := by rw [hw0]; rfl
  have fr0 : FR u w0 v v := ⟨by rw [hw0]; exact ie_up (ie_refl _ _) (by decide), by rw [hw0], fun _ _ => rfl, rfl⟩
  have e61 : w0.1 1 = v.1 6 := r0.2.1
  obtain ⟨w, b1, b2, b3, b4, b5, b6, b7⟩ := e5_word_L n6 w0 (by rw [e61]; omega) (by rw [e61, r0.1.1]; omega) (by rw [r0.1.1]; omega) h6
  have fr1 : FR w0 w v v := ⟨ie_tr b2 (by decide) (ie_refl _ _), b3, fun _ _ => rfl, rfl⟩
  have fr := FR_tr fr0 fr1
  have w2 : w.1 2 = v.1 6 := (b2 2 (by decide)).trans (e2.trans e61)
  have w5 : w.1 5 = 0 := (b2 5 (by decide)).trans r0.2.2.2.2
  have rx := RX_fr r0.1 fr1
  rw [e61] at b4 b6
  rw [r0.1.1] at b5
  have b6 : ∀ k : Nat, (k : Int) < (w.1 1).toInt - (v.1 6).toInt → LT (tb7 v (v.1 6 + nI k)) := fun k g => by
    rw [← tb_eq r0.1]
    exact b6 k g
  have b7 : ¬ LT (tb7 v (w.1 1)) := by
    rw [← tb_eq r0.1]
    exact b7
  have key : ∀ i, i < 12 → (RD w i ↔ wd_y v i) := fun i hi => RD_wd hi rx w2 bc.1 b4 b5 b6 b7
  have ends : ∀ i : Nat, i < 12 → wd_y v i → w.1 1 = v.1 6 + nI (st_len.getD i 0) ∧ (v.1 6).toInt + ln i ≤ (v.1 5).toInt := fun i hi g => by
    have g1 := ((key i hi).mpr g).1
    have l := lnn i
    have ll : ln i = ((st_len.getD i 0 : Nat) : Int) := rfl
    rw [w2] at g1
    refine ⟨Int32.toInt_inj.mp ?_, by omega⟩
    rw [qk (by omega) (by omega) (by omega)]
    omega
  obtain ⟨r, c1, c2⟩ := e5_wordRead (by rw [w2]; omega) (by rw [w2]; omega) b1
  refine ⟨r, w, c1, fr, rx, w2, bc.1, bc.2.1, w5, ?_, fun i hi => ?_, ends⟩
  · rcases c2 with ⟨i, g1, g2, _⟩ | ⟨g, _⟩
    · omega
    · rw [g]
      decide
  · rcases c2 with ⟨j, g1, g2, g3⟩ | ⟨g, g2⟩
    · constructor
      · intro h
        have : j = i := by omega
        rw [← this]
        exact (key j g1).mp g3
      · intro h
        have k1 := (key i hi).mpr h
        have l1 : ln i = ((st_len.getD i 0 : Nat) : Int) := rfl
        have l2 : ln j = ((st_len.getD j 0 : Nat) : Int) := rfl
        have ee : i = j := wd_uniq i hi j g1 (by have := k1.1; have := g3.1; omega) (fun k hk => (k1.2 k (by omega)).symm.trans (g3.2 k (by have := k1.1; have := g3.1; omega)))
        rw [ee]
        exact g2
    · constructor
      · intro h
        rw [g] at h
        have e0 : (0 : Int32).toInt = 0 := rfl
        omega
      · intro h
        exact absurd ((key i hi).mpr h) (g2 i hi)
theorem sm_word {P6 : Int32 → Tp → Prop} {P7 : Int32 → Md → Prop} {t : Tp} {s : Md} {i0 : Nat} (hR : RT t s) (h6 : wp_X5_takeWord P6 t) (h7 : wp_X7_isWord P7 s i0) : ∃ r u r7 v, P6 r u ∧ P7 r7 v ∧ FR t u s v ∧ CW r u v ∧ ((r7 = 1 ∧ wd_y v i0) ∨ (r7 = 0 ∧ ¬ wd_y v i0)) ∧ ¬ tb7 v (v.1 6) = 32 := by
  unfold wp_X5_takeWord at h6
  unfold wp_X7_isWord at h7
  obtain ⟨u, v, a1, a2, a3, a4, a5, a6, _⟩ := sm_peek hR h6 h7
  obtain ⟨n6, h6⟩ := a1
  have h7 := e7_isW_rest a3.2.2.2.1 a2
  obtain ⟨r, w, c1, fr, cw⟩ := sm_word_core a3 h6
  rcases h7 with ⟨h7, d⟩ | ⟨h7, d⟩
  · exact ⟨r, w, 1, v, c1, h7, FR_tr a4 fr, cw, Or.inl ⟨rfl, d⟩, a5⟩
  · exact ⟨r, w, 0, v, c1, h7, FR_tr a4 fr, cw, Or.inr ⟨rfl, d⟩, a5⟩
/-- a word that must stand: the class's takeThisWord beside mustWord -/
theorem sm_thisWord {P6 : Tp → Prop} {P7 : Int32 → Md → Prop} {t : Tp} {s : Md} {i : Nat} {x : Int32} (hi : i < 12) (hx : x.toInt = (i : Int) + 1) (hR : RT t s) (h6 : wp_X5_takeThisWord P6 t x) (h7 : wp_X7_mustWord P7 s i) : ∃ u r v, P6 u ∧ P7 r v ∧ FR t u s v ∧ ((r = 1 ∧ RT u v) ∨ (r = 0 ∧ FL u v)) := by
  unfold wp_X5_takeThisWord at h6
  unfold wp_X7_mustWord wp_X7_takesWord at h7
  obtain ⟨r, u, r7, v, a1, a2, a3, a4, a5, a6⟩ := sm_word hR h6 h7
  obtain ⟨c1, c2, c3, c4, c5, c6, c7, c8⟩ := a4
  have bb := c1.2.2
  rcases a5 with ⟨rfl, d⟩ | ⟨rfl, d⟩
  · have er : r = x := Int32.toInt_inj.mp (((c7 i hi).mpr d).trans hx.symm)
    obtain ⟨r5, h7, hr⟩ := e_len (a2.2 (by decide))
    have h7 := h7.2.1 (by decide)
    obtain ⟨g1, g2⟩ := c8 i hi d
    have l := lnn i
    have ll : ln i = ((st_len.getD i 0 : Nat) : Int) := rfl
    have e5 : r5 = nI (st_len.getD i 0) := Int32.toInt_inj.mp (by
      rw [nI_toInt (by omega)]
      omega)
    have k := qk (q := v.1 6) (k := st_len.getD i 0) (by omega) (by omega) (by omega)
    refine ⟨u, 1, _, a1.1 er, h7, FR_tr a3 ⟨ie_refl _ _, rfl, ie_up (ie_refl _ _) (by decide), rfl⟩, Or.inl ⟨rfl, c1, ?_, ?_, ?_, c5⟩⟩
    · show u.1 1 = v.1 6 + r5
      rw [e5]
      exact g1
    · show 0 ≤ (v.1 6 + r5).toInt
      rw [e5]
      omega
    · show (v.1 6 + r5).toInt ≤ (v.1 5).toInt
      rw [e5]
      omega
  · have er : ¬ r = x := fun g => d ((c7 i hi).mp (by rw [g]; exact hx))
    obtain ⟨w, y, b1, b2, b3, b4⟩ := sm_fault c5 c2 c3 (by omega) (by decide) (by decide) (a1.2 er) ((a2.1 rfl).2.2 rfl)
    exact ⟨w, 0, y, b1, b2.1 rfl, FR_tr a3 b3, Or.inr ⟨rfl, b4⟩⟩
