theorem and255 (a : Int32) : 0 ≤ (a &&& 255).toInt ∧ (a &&& 255).toInt ≤ 255 := by
  have e : (a &&& 255).toBitVec.toNat = a.toBitVec.toNat &&& 255 := by
    rw [Int32.toBitVec_and, BitVec.toNat_and]
    rfl
  have l : a.toBitVec.toNat &&& 255 ≤ 255 := Nat.and_le_right
  have t : (a &&& 255).toInt = ((a &&& 255).toBitVec.toNat : Int) := by
    show (a &&& 255).toBitVec.toInt = _
    rw [BitVec.toInt_eq_toNat_of_lt (by rw [e]; omega)]
  rw [t, e]
  omega
def tb7 (s : Md) (x : Int32) : Int32 := if s.1 5 ≤ x then -1 else (s.2.2.2 2 (Int32.toNatClampNeg x)) &&& 255
theorem wq_X7_byteAt {post : Int32 → Prop} {s0 : Md} {x1 : Int32} {N R W D : Int} (h : mb N R W D s0) (hx : 0 ≤ x1.toInt) (k : ∀ r : Int32, (r.toInt = -1 ∧ N ≤ x1.toInt) ∨ (0 ≤ r.toInt ∧ r.toInt ≤ 255 ∧ x1.toInt < N) → r = tb7 s0 x1 → post r) : wp_X7_byteAt post s0 x1 := by
  unfold wp_X7_byteAt
  have q0 := h.1
  have q1 := h.2.2.1
  have m1 : (-1 : Int32).toInt = -1 := rfl
  refine ⟨fun c => k _ (Or.inl ⟨m1, by have := q_le c; omega⟩) (by unfold tb7; rw [if_pos c]), fun c => ?_⟩
  have c2 := q_nle c
  have a := and255 (s0.2.2.2 2 (Int32.toNatClampNeg x1))
  exact ⟨vi (by omega) (by omega), k _ (Or.inr ⟨a.1, a.2, by omega⟩) (by unfold tb7; rw [if_neg c])⟩
theorem wq_X7_nextByte_L0 {post : Int32 → Md → Prop} {e26 : Md → Prop} {s : Md} {N R W D : Int} (hs : mb N R W D s) (h6 : 0 ≤ (s.1 6).toInt) (ke : ∀ t : Md, mb N R W D t → ie [6] t.1 s.1 → t.2 = s.2 → (s.1 6).toInt ≤ (t.1 6).toInt ∧ (t.1 6).toInt ≤ N → (¬ tb7 s (s.1 6) = 32 → t = s) → ¬ tb7 t (t.1 6) = 32 → e26 t) : ∀ (n : Nat) (t : Md), mb N R W D t → ie [6] t.1 s.1 → t.2 = s.2 → (s.1 6).toInt ≤ (t.1 6).toInt ∧ (t.1 6).toInt ≤ N → (¬ tb7 s (s.1 6) = 32 → t = s) → N - (t.1 6).toInt < (n : Int) → wp_X7_nextByte_L0 post e26 n t := by
  have e1 : (1 : Int32).toInt = 1 := rfl
  have e32 : (32 : Int32).toInt = 32 := rfl
  intro n
  induction n with
  | zero =>
    intro t _ _ _ _ _ _
    exfalso
    omega
  | succ n ih =>
    intro t h a1 a2 a3 a5 hm
    unfold wp_X7_nextByte_L0
    refine wq_X7_byteAt h (by omega) (fun r b1 b2 => ⟨fun c => ke t h a1 a2 a3 a5 (fun g => c (b2.trans g)), fun c => ?_⟩)
    have c2 := q_eq c
    have pn := h.2.2.1
    have s1 := nw (tq_addr e1 (t.1 6)) (by omega)
    have e6 : (((va_up t.1 6 ((t.1 6) + 1)), t.2.1, t.2.2.1, t.2.2.2) : Md).1 6 = t.1 6 + 1 := rfl
    refine ih _ (mb_i h rfl rfl rfl) (ie_up a1 (by decide)) a2 ?_ (fun g => ?_) ?_
    · rw [e6]
      omega
    · exfalso
      have tt : tb7 t (t.1 6) = 32 := b2.symm.trans c
      rw [a5 g] at tt
      exact g tt
    · rw [e6]
      omega
theorem wq_X7_nextByte {post : Int32 → Md → Prop} {s0 : Md} {N R W D : Int} (h : mb N R W D s0) (h6 : 0 ≤ (s0.1 6).toInt ∧ (s0.1 6).toInt ≤ N) (k : ∀ (r : Int32) (u : Md), mb N R W D u → ie [6] u.1 s0.1 → (s0.1 6).toInt ≤ (u.1 6).toInt ∧ (u.1 6).toInt ≤ N → (r.toInt = -1 ∧ (u.1 6).toInt = N) ∨ (0 ≤ r.toInt ∧ r.toInt ≤ 255 ∧ (u.1 6).toInt < N) → u.2 = s0.2 → r = tb7 u (u.1 6) ∧ ¬ tb7 u (u.1 6) = 32 ∧ (¬ tb7 s0 (s0.1 6) = 32 → u = s0) → post r u) : wp_X7_nextByte post s0 := by
  unfold wp_X7_nextByte
  have pn := h.2.2.1
  obtain ⟨nf, hf⟩ := fu_e 500
  refine ⟨nf, wq_X7_nextByte_L0 h h6.1 (fun t b1 b2 b3 b4 b5 b6 => ?_) nf s0 h (ie_refl _ _) rfl ⟨Int.le_refl _, h6.2⟩ (fun _ => rfl) (by omega)⟩
  exact wq_X7_byteAt b1 (by omega) (fun r c1 c2 => k r t b1 b2 b4 (by omega) b3 ⟨c2, b6, b5⟩)
theorem ch_b : ∀ i, i < 12 → ∀ j, j < st_len.getD i 0 → 97 ≤ (chv i j).toInt ∧ (chv i j).toInt ≤ 122 := by decide +kernel
theorem wq_X7_charAtB {post : Int32 → Prop} {i0 : Nat} {x1 : Int32} (h : 0 ≤ x1.toInt ∧ x1.toInt < ln i0) (k : ∀ r : Int32, 97 ≤ r.toInt ∧ r.toInt ≤ 122 → post r) : wp_J0_charAt_5068e post i0 x1 := by
  unfold wp_J0_charAt_5068e wp_J0_isLatin1_aae02
  have l := st_le i0
  have h2 : x1.toInt < ((st_len.getD i0 0 : Nat) : Int) := h.2
  have t := tq_ofn (n := st_len.getD i0 0) (by omega)
  have g : i0 < 12 := st_lt (by omega)
  have hj : Int32.toNatClampNeg x1 < st_len.getD i0 0 := by
    rw [tn_i]
    omega
  have ch : narrow .char (.int (chv i0 (Int32.toNatClampNeg x1))) = .int (chv i0 (Int32.toNatClampNeg x1)) := congrArg (fun z => (.int z : Value)) (ch_ok i0 g _ (by omega))
  refine ⟨fun c => absurd c (by decide), fun _ => ?_⟩
  unfold wp_J1_charAt_3b067 wp_J0_checkIndex_df160 wp_J3_checkIndex_8e157_n
  refine ⟨fun c => ?_, fun c => ⟨fun d => ?_, fun d => ?_⟩⟩
  · have := q_lt c
    have e0 : (0 : Int32).toInt = 0 := rfl
    exfalso
    omega
  · exact ⟨vi h.1 h2, ch, ch, k _ (ch_b i0 g _ hj)⟩
  · have := q_nlt d
    exfalso
    omega
theorem wq_X7_fails {post : Int32 → Md → Prop} {s0 : Md} {x1 : Int32} {x2 : Int32} {N R W D : Int} (h102151 : mb (N) (R) (W) (D) s0) (k : ∀ (r : Int32) (u : Md), mb (N) (R) (W) (D) u → ie [7] u.1 s0.1 → (r).toInt = 0 → u.2 = s0.2 → post r u) : wp_X7_fails post s0 x1 x2 := by
  unfold wp_X7_fails
  have := h102151.1
  have := h102151.2.1
  have := h102151.2.2.1
  have := h102151.2.2.2.1
  have p102152 : (s0.1 5).toInt = N := by omega
  have p102153 : 0 ≤ (s0.1 0).toInt ∧ (s0.1 0).toInt ≤ 10 := by omega
  have p102154 : 0 ≤ N ∧ N ≤ 400 := by omega
  have p102155 : 0 ≤ R ∧ R ≤ 6 ∧ 0 ≤ W ∧ W ≤ 10 ∧ 0 ≤ R * W ∧ R * W ≤ 40 ∧ 0 ≤ D ∧ D ≤ 4 ∧ (D ≤ 0 ∨ 1 ≤ R) ∧ (1 ≤ R ∨ R * W = 0) := by omega
  have B102156 : mb (N) (R) (W) (D) ((va_up s0.1 7 ((8 * x2) + x1)), s0.2.1, s0.2.2.1, s0.2.2.2) := ⟨p102152, p102153, p102154, p102155, h102151.2.2.2.2.1, h102151.2.2.2.2.2.1, h102151.2.2.2.2.2.2.1, h102151.2.2.2.2.2.2.2⟩
  have p102157 : ie [7] (va_up s0.1 7 ((8 * x2) + x1)) s0.1 := (ie_up (ie_refl _ _) (by decide))
  have p102158 : (0 : Int32).toInt = 0 := by (have := li_0; omega)
  have p102159 : s0.2 = s0.2 := rfl
  exact k _ _ B102156 p102157 p102158 p102159
theorem wq_X7_charAtF {post : Int32 → Prop} {i0 : Nat} {x1 : Int32} (h : 0 ≤ x1.toInt ∧ x1.toInt < ln i0) (k : ∀ r : Int32, 97 ≤ r.toInt ∧ r.toInt ≤ 122 → r = chv i0 x1.toInt.toNat → post r) : wp_J0_charAt_5068e post i0 x1 := by
  unfold wp_J0_charAt_5068e wp_J0_isLatin1_aae02
  have l := st_le i0
  have h2 : x1.toInt < ((st_len.getD i0 0 : Nat) : Int) := h.2
  have t := tq_ofn (n := st_len.getD i0 0) (by omega)
  have g : i0 < 12 := st_lt (by omega)
  have hj : Int32.toNatClampNeg x1 < st_len.getD i0 0 := by
    rw [tn_i]
    omega
  have ch : narrow .char (.int (chv i0 (Int32.toNatClampNeg x1))) = .int (chv i0 (Int32.toNatClampNeg x1)) := congrArg (fun z => (.int z : Value)) (ch_ok i0 g _ (by omega))
  refine ⟨fun c => absurd c (by decide), fun _ => ?_⟩
  unfold wp_J1_charAt_3b067 wp_J0_checkIndex_df160 wp_J3_checkIndex_8e157_n
  refine ⟨fun c => ?_, fun c => ⟨fun d => ?_, fun d => ?_⟩⟩
  · have := q_lt c
    have e0 : (0 : Int32).toInt = 0 := rfl
    exfalso
    omega
  · exact ⟨vi h.1 h2, ch, ch, k _ (ch_b i0 g _ hj) rfl⟩
  · have := q_nlt d
    exfalso
    omega
def wd_m (s : Md) (i n : Nat) : Prop := ∀ k, k < n → tb7 s (s.1 6 + nI k) = chv i k
def wd_y (s : Md) (i : Nat) : Prop := wd_m s i (st_len.getD i 0) ∧ ¬ (97 ≤ (tb7 s (s.1 6 + nI (st_len.getD i 0))).toInt ∧ (tb7 s (s.1 6 + nI (st_len.getD i 0))).toInt ≤ 122)
theorem wq_X7_isWord_L22 {i1 : Nat} {post : Int32 → Md → Prop} {e51 : Md → Int32 → Int32 → Prop} {t0 : Md} {N R W D : Int} (h : mb N R W D t0) (h6 : 0 ≤ (t0.1 6).toInt ∧ (t0.1 6).toInt ≤ N) (hi : 1 ≤ ln i1 ∧ ln i1 ≤ 9) (ke : ∀ z3 : Int32, (z3.toInt = ln i1 ∧ wd_m t0 i1 (st_len.getD i1 0)) ∨ (z3.toInt < ln i1 ∧ ¬ wd_m t0 i1 (st_len.getD i1 0)) → 0 ≤ z3.toInt → (t0.1 6).toInt + z3.toInt ≤ N → e51 t0 (t0.1 6) z3) : ∀ (n : Nat) (z3 : Int32), wd_m t0 i1 z3.toInt.toNat → 0 ≤ z3.toInt ∧ z3.toInt ≤ ln i1 → (t0.1 6).toInt + z3.toInt ≤ N → ln i1 - z3.toInt < (n : Int) → wp_X7_isWord_L22 i1 post e51 n t0 (t0.1 6) z3 := by
  have e1 : (1 : Int32).toInt = 1 := rfl
  have pn := h.2.2.1
  intro n
  induction n with
  | zero =>
    intro z3 _ _ _ _
    exfalso
    omega
  | succ n ih =>
    intro z3 w i2 i4 i3
    unfold wp_X7_isWord_L22
    have hl : ln i1 = ((st_len.getD i1 0 : Nat) : Int) := rfl
    refine wq_J0_length_8abf5 (fun r4 a4 b4 => ⟨fun c => ke z3 (Or.inl ⟨by have := q_le c; omega, ?_⟩) i2.1 i4, fun c => ?_⟩)
    · have e : z3.toInt.toNat = st_len.getD i1 0 := by
        have := q_le c
        omega
      rw [← e]
      exact w
    have c2 := q_nle c
    have s1 := nw (tq_addr e1 z3) (by omega)
    have s2 := nw (tq_add (t0.1 6) z3) (by omega)
    have ez := nI_z (z := z3) i2.1
    refine wq_X7_byteAt h (by omega) (fun r7 a7 b7 => wq_X7_charAtF (by omega) (fun r9 a9 b9 => ⟨fun g => ?_, fun g => ?_⟩))
    · refine ke z3 (Or.inr ⟨by omega, fun m => g ?_⟩) i2.1 i4
      have q := m z3.toInt.toNat (by omega)
      rw [← ez] at q
      rw [b7, q, b9]
    · have g2 := q_eq g
      refine ih (z3 + 1) (fun k hk => ?_) (by omega) (by omega) (by omega)
      by_cases e : k = z3.toInt.toNat
      · rw [e, ← ez, ← b7, g, b9]
      · exact w k (by omega)
theorem wq_X7_isWord_L22b {i1 : Nat} {post : Int32 → Md → Prop} {e51 : Md → Int32 → Int32 → Prop} {t0 : Md} {N R W D : Int} (h : mb N R W D t0) (h6 : 0 ≤ (t0.1 6).toInt ∧ (t0.1 6).toInt ≤ N) (hi : 1 ≤ ln i1 ∧ ln i1 ≤ 9) (ke : ∀ z3 : Int32, (z3.toInt = ln i1 ∧ wd_m t0 i1 (st_len.getD i1 0)) ∨ (z3.toInt < ln i1 ∧ ¬ wd_m t0 i1 (st_len.getD i1 0)) → 0 ≤ z3.toInt → (t0.1 6).toInt + z3.toInt ≤ N → e51 t0 (t0.1 6) z3) : ∀ (n : Nat) (z3 : Int32), wd_m t0 i1 z3.toInt.toNat → 0 ≤ z3.toInt ∧ z3.toInt ≤ ln i1 → (t0.1 6).toInt + z3.toInt ≤ N → ln i1 - z3.toInt < (n : Int) → wp_X7_isWord_L22b i1 post e51 n t0 (t0.1 6) z3 := by
  have e1 : (1 : Int32).toInt = 1 := rfl
  have pn := h.2.2.1
  intro n
  induction n with
  | zero =>
    intro z3 _ _ _ _
    exfalso
    omega
  | succ n ih =>
    intro z3 w i2 i4 i3
    unfold wp_X7_isWord_L22b
    have hl : ln i1 = ((st_len.getD i1 0 : Nat) : Int) := rfl
    refine wq_J0_length_8abf5 (fun r4 a4 b4 => ⟨fun c => ke z3 (Or.inl ⟨by have := q_le c; omega, ?_⟩) i2.1 i4, fun c => ?_⟩)
    · have e : z3.toInt.toNat = st_len.getD i1 0 := by
        have := q_le c
        omega
      rw [← e]
      exact w
    have c2 := q_nle c
    have s1 := nw (tq_addr e1 z3) (by omega)
    have s2 := nw (tq_add (t0.1 6) z3) (by omega)
    have ez := nI_z (z := z3) i2.1
    refine wq_X7_byteAt h (by omega) (fun r7 a7 b7 => wq_X7_charAtF (by omega) (fun r9 a9 b9 => ⟨fun g => ?_, fun g => ?_⟩))
    · refine ke z3 (Or.inr ⟨by omega, fun m => g ?_⟩) i2.1 i4
      have q := m z3.toInt.toNat (by omega)
      rw [← ez] at q
      rw [b7, q, b9]
    · have g2 := q_eq g
      refine ih (z3 + 1) (fun k hk => ?_) (by omega) (by omega) (by omega)
      by_cases e : k = z3.toInt.toNat
      · rw [e, ← ez, ← b7, g, b9]
      · exact w k (by omega)
theorem wd_end {post : Int32 → Md → Prop} {u : Md} {z2 z3 : Int32} {i1 : Nat} {N R W D : Int} (h : mb N R W D u) (h6 : 0 ≤ (u.1 6).toInt) (hz2 : z2 = u.1 6) (hz : (z3.toInt = ln i1 ∧ wd_m u i1 (st_len.getD i1 0)) ∨ (z3.toInt < ln i1 ∧ ¬ wd_m u i1 (st_len.getD i1 0))) (h3 : 0 ≤ z3.toInt) (hn : (u.1 6).toInt + z3.toInt ≤ N) (k : ∀ r : Int32, (r.toInt = 0 ∨ (r.toInt = 1 ∧ (u.1 6).toInt + ln i1 ≤ N)) → ((r.toInt = 1 ∧ wd_y u i1) ∨ (r.toInt = 0 ∧ ¬ wd_y u i1)) → post r u) : wp_J0_length_8abf5 (fun r_12 => ((¬ z3 = r_12 → post 0 u) ∧ (z3 = r_12 → wp_X7_byteAt (fun r_15 => wp_X7_in (fun r_17 => ((¬ r_17 = 0 → post 0 u) ∧ (r_17 = 0 → post 1 u))) (Int32.toInt64 r_15) (97 : Int64) (122 : Int64)) u (z2 + z3)))) i1 := by
  have e0 : (0 : Int32).toInt = 0 := rfl
  have e1 : (1 : Int32).toInt = 1 := rfl
  have l97 : (97 : Int64).toInt = 97 := rfl
  have l122 : (122 : Int64).toInt = 122 := rfl
  have pn := h.2.2.1
  subst hz2
  refine wq_J0_length_8abf5 (fun r12 a12 b12 => ⟨fun c => k _ (Or.inl e0) (Or.inr ⟨e0, ?_⟩), fun c => ?_⟩)
  · have c2 := q_neq c
    rcases hz with g | g
    · omega
    · exact fun y => g.2 y.1
  · have c2 := q_eq c
    have hm : wd_m u i1 (st_len.getD i1 0) := by
      rcases hz with g | g
      · exact g.2
      · omega
    have s2 := nw (tq_add (u.1 6) z3) (by omega)
    have hl : ln i1 = ((st_len.getD i1 0 : Nat) : Int) := rfl
    have ez : z3 = nI (st_len.getD i1 0) := by
      have e := nI_z (z := z3) h3
      have e2 : z3.toInt.toNat = st_len.getD i1 0 := by omega
      rw [e2] at e
      exact e
    refine wq_X7_byteAt h (by omega) (fun r15 a15 b15 => wq_X7_in (fun r17 a17 => ⟨fun g => ?_, fun g => ?_⟩))
    · have g2 := q_neq g
      have t := tq_64 r15
      refine k _ (Or.inl e0) (Or.inr ⟨e0, fun y => y.2 ?_⟩)
      rw [← ez, ← b15]
      omega
    · have g2 := q_eq g
      have t := tq_64 r15
      refine k _ (Or.inr ⟨e1, by omega⟩) (Or.inl ⟨e1, hm, ?_⟩)
      rw [← ez, ← b15]
      omega
theorem wq_X7_isWord {post : Int32 → Md → Prop} {s0 : Md} {i1 : Nat} {N R W D : Int} (h : mb N R W D s0) (h6 : 0 ≤ (s0.1 6).toInt ∧ (s0.1 6).toInt ≤ N) (hi : 1 ≤ ln i1 ∧ ln i1 ≤ 9) (k : ∀ (r : Int32) (u : Md), mb N R W D u → ie [6] u.1 s0.1 → (r.toInt = 0 ∨ r.toInt = 1) → (s0.1 6).toInt ≤ (u.1 6).toInt ∧ (u.1 6).toInt ≤ N → (r.toInt = 0 ∨ (u.1 6).toInt + ln i1 ≤ N) → u.2 = s0.2 → ((r.toInt = 1 ∧ wd_y u i1) ∨ (r.toInt = 0 ∧ ¬ wd_y u i1)) ∧ ¬ tb7 u (u.1 6) = 32 ∧ (¬ tb7 s0 (s0.1 6) = 32 → u = s0) → post r u) : wp_X7_isWord post s0 i1 := by
  unfold wp_X7_isWord
  have e0 : (0 : Int32).toInt = 0 := rfl
  have m1 : (-1 : Int32).toInt = -1 := rfl
  refine wq_X7_nextByte h h6 (fun r1 u hu ju b1 b2 bE b3 => ?_)
  have fin : ∀ r : Int32, (r.toInt = 0 ∨ (r.toInt = 1 ∧ (u.1 6).toInt + ln i1 ≤ N)) → ((r.toInt = 1 ∧ wd_y u i1) ∨ (r.toInt = 0 ∧ ¬ wd_y u i1)) → post r u := fun r q1 q2 => k r u hu ju (by omega) b1 (by omega) bE ⟨q2, b3.2.1, b3.2.2⟩
  have w0 : wd_m u i1 (0 : Int32).toInt.toNat := fun k hk => absurd hk (by rw [e0]; omega)
  refine ⟨fun c => ?_, fun c => ?_⟩
  · obtain ⟨nf, hf⟩ := fu_e 50
    exact ⟨nf, wq_X7_isWord_L22 hu (by omega) hi (fun z3 q1 q2 q3 => wd_end hu (by omega) rfl q1 q2 q3 fin) nf 0 w0 (by omega) (by omega) (by omega)⟩
  · have c2 := q_eq c
    have u5 := hu.1
    have es : u.1 5 = u.1 6 := Int32.toInt_inj.mp (by omega)
    obtain ⟨nf, hf⟩ := fu_e 50
    rw [es]
    exact ⟨nf, wq_X7_isWord_L22b hu (by omega) hi (fun z3 q1 q2 q3 => wd_end hu (by omega) rfl q1 q2 q3 fin) nf 0 w0 (by omega) (by omega) (by omega)⟩
theorem wq_X7_takesWord {post : Int32 → Md → Prop} {s0 : Md} {i1 : Nat} {N R W D : Int} (h102160 : mb (N) (R) (W) (D) s0) (h102161 : 0 ≤ (s0.1 6).toInt ∧ (s0.1 6).toInt ≤ N) (h102162 : 1 ≤ ln i1 ∧ ln i1 ≤ 9) (k : ∀ (r : Int32) (u : Md), mb (N) (R) (W) (D) u → ie [6] u.1 s0.1 → (r).toInt = 0 ∨ (r).toInt = 1 → (s0.1 6).toInt ≤ (u.1 6).toInt ∧ (u.1 6).toInt ≤ N → u.2 = s0.2 → post r u) : wp_X7_takesWord post s0 i1 := by
  unfold wp_X7_takesWord
  have := h102160.1
  have := h102160.2.1
  have := h102160.2.2.1
  have := h102160.2.2.2.1
  have p102163 : 0 ≤ (s0.1 6).toInt ∧ (s0.1 6).toInt ≤ N := by omega
  have p102164 : 1 ≤ ln i1 ∧ ln i1 ≤ 9 := by first | assumption | decide
  refine wq_X7_isWord h102160 p102163 p102164 (fun r_1 u_2 q102165 q102166 q102167 q102168 q102169 q102170 q102171 => ?_)
  have := q102165.1
  have := q102165.2.1
  refine ⟨fun c102172 => ?_, fun c102173 => ?_⟩
  · replace c102172 := q_eq c102172
    rw [li_0] at c102172
    refine ⟨(nb_b (by omega)), ?_⟩
    have p102174 : ie [6] u_2.1 s0.1 := (ie_tr q102166 (by decide) (ie_refl _ _))
    have p102175 : (r_1).toInt = 0 ∨ (r_1).toInt = 1 := by omega
    have p102176 : (s0.1 6).toInt ≤ (u_2.1 6).toInt ∧ (u_2.1 6).toInt ≤ N := by omega
    have p102177 : u_2.2 = s0.2 := q102170
    exact k _ _ q102165 p102174 p102175 p102176 p102177
  · replace c102173 := q_neq c102173
    rw [li_0] at c102173
    refine wq_J0_length_8abf5 (fun r_5 q102178 q102179 => ?_)
    refine ⟨(nb_b (by omega)), ?_⟩
    have : (u_2.1 5).toInt = (s0.1 5).toInt := ie_i q102166 5 (by decide)
    have p102180 : (u_2.1 5).toInt = N := by omega
    have : (u_2.1 0).toInt = (s0.1 0).toInt := ie_i q102166 0 (by decide)
    have p102181 : 0 ≤ (u_2.1 0).toInt ∧ (u_2.1 0).toInt ≤ 10 := by omega
    have p102182 : 0 ≤ N ∧ N ≤ 400 := by omega
    have p102183 : 0 ≤ R ∧ R ≤ 6 ∧ 0 ≤ W ∧ W ≤ 10 ∧ 0 ≤ R * W ∧ R * W ≤ 40 ∧ 0 ≤ D ∧ D ≤ 4 ∧ (D ≤ 0 ∨ 1 ≤ R) ∧ (1 ≤ R ∨ R * W = 0) := by omega
    have B102184 : mb (N) (R) (W) (D) ((va_up u_2.1 6 ((u_2.1 6) + r_5)), u_2.2.1, u_2.2.2.1, u_2.2.2.2) := ⟨p102180, p102181, p102182, p102183, q102165.2.2.2.2.1, q102165.2.2.2.2.2.1, q102165.2.2.2.2.2.2.1, q102165.2.2.2.2.2.2.2⟩
    have p102185 : ie [6] (va_up u_2.1 6 ((u_2.1 6) + r_5)) s0.1 := (ie_up (ie_tr q102166 (by decide) (ie_refl _ _)) (by decide))
    have p102186 : (r_1).toInt = 0 ∨ (r_1).toInt = 1 := by omega
    have e102187 := tq_add (u_2.1 6) r_5
    try rw [Int.emod_eq_of_lt (show 0 ≤ (u_2.1 6).toInt + (r_5).toInt + 2147483648 by omega) (show (u_2.1 6).toInt + (r_5).toInt + 2147483648 < 4294967296 by omega)] at e102187
    have p102188 : (s0.1 6).toInt ≤ ((u_2.1 6) + r_5).toInt ∧ ((u_2.1 6) + r_5).toInt ≤ N := by omega
    have p102189 : u_2.2 = s0.2 := q102170
    exact k _ _ B102184 p102185 p102186 p102188 p102189
theorem wq_X7_mustWord {post : Int32 → Md → Prop} {s0 : Md} {i1 : Nat} {N R W D : Int} (h102190 : mb (N) (R) (W) (D) s0) (h102191 : 0 ≤ (s0.1 6).toInt ∧ (s0.1 6).toInt ≤ N) (h102192 : 1 ≤ ln i1 ∧ ln i1 ≤ 9) (k : ∀ (r : Int32) (u : Md), mb (N) (R) (W) (D) u → ie [6, 7] u.1 s0.1 → (r).toInt = 0 ∨ (r).toInt = 1 → (s0.1 6).toInt ≤ (u.1 6).toInt ∧ (u.1 6).toInt ≤ N → u.2 = s0.2 → post r u) : wp_X7_mustWord post s0 i1 := by
  unfold wp_X7_mustWord
  have := h102190.1
  have := h102190.2.1
  have := h102190.2.2.1
  have := h102190.2.2.2.1
  have p102193 : 0 ≤ (s0.1 6).toInt ∧ (s0.1 6).toInt ≤ N := by omega
  have p102194 : 1 ≤ ln i1 ∧ ln i1 ≤ 9 := by first | assumption | decide
  refine wq_X7_takesWord h102190 p102193 p102194 (fun r_1 u_2 q102195 q102196 q102197 q102198 q102199 => ?_)
  have := q102195.1
  have := q102195.2.1
  refine ⟨fun c102200 => ?_, fun c102201 => ?_⟩
  · replace c102200 := q_neq c102200
    rw [li_0] at c102200
    have p102202 : ie [6, 7] u_2.1 s0.1 := (ie_tr q102196 (by decide) (ie_refl _ _))
    have p102203 : (1 : Int32).toInt = 0 ∨ (1 : Int32).toInt = 1 := by (have := li_1; omega)
    have p102204 : (s0.1 6).toInt ≤ (u_2.1 6).toInt ∧ (u_2.1 6).toInt ≤ N := by omega
    have p102205 : u_2.2 = s0.2 := q102199
    exact k _ _ q102195 p102202 p102203 p102204 p102205
  · replace c102201 := q_eq c102201
    rw [li_0] at c102201
    refine wq_X7_fails q102195 (fun r_4 u_5 q102206 q102207 q102208 q102209 => ?_)
    have := q102206.1
    have := q102206.2.1
    refine ⟨fun c102210 => ?_, fun c102211 => ?_⟩
    · replace c102210 := q_eq c102210
      rw [li_0] at c102210
      have p102212 : ie [6, 7] u_5.1 s0.1 := (ie_tr q102207 (by decide) (ie_tr q102196 (by decide) (ie_refl _ _)))
      have p102213 : (0 : Int32).toInt = 0 ∨ (0 : Int32).toInt = 1 := by (have := li_0; omega)
      have : (u_5.1 6).toInt = (u_2.1 6).toInt := ie_i q102207 6 (by decide)
      have p102214 : (s0.1 6).toInt ≤ (u_5.1 6).toInt ∧ (u_5.1 6).toInt ≤ N := by omega
      have p102215 : u_5.2 = s0.2 := (q102209.trans q102199)
      exact k _ _ q102206 p102212 p102213 p102214 p102215
    · replace c102211 := q_neq c102211
      rw [li_0] at c102211
      have p102216 : ie [6, 7] u_5.1 s0.1 := (ie_tr q102207 (by decide) (ie_tr q102196 (by decide) (ie_refl _ _)))
      have p102217 : (1 : Int32).toInt = 0 ∨ (1 : Int32).toInt = 1 := by (have := li_1; omega)
      have : (u_5.1 6).toInt = (u_2.1 6).toInt := ie_i q102207 6 (by decide)
      have p102218 : (s0.1 6).toInt ≤ (u_5.1 6).toInt ∧ (u_5.1 6).toInt ≤ N := by omega
      have p102219 : u_5.2 = s0.2 := (q102209.trans q102199)
      exact k _ _ q102206 p102216 p102217 p102218 p102219
theorem wq_X7_takesByte {post : Int32 → Md → Prop} {s0 : Md} {x1 : Int32} {N R W D : Int} (h : mb N R W D s0) (h6 : 0 ≤ (s0.1 6).toInt ∧ (s0.1 6).toInt ≤ N) (hx : ¬ x1.toInt = -1) (k : ∀ (r : Int32) (u : Md), mb N R W D u → ie [6] u.1 s0.1 → (s0.1 6).toInt ≤ (u.1 6).toInt ∧ (u.1 6).toInt ≤ N → (r.toInt = 0 ∨ (r.toInt = 1 ∧ (s0.1 6).toInt < (u.1 6).toInt)) → u.2 = s0.2 → (¬ tb7 s0 (s0.1 6) = 32 → ¬ tb7 s0 (s0.1 6) = x1 → r.toInt = 0) → post r u) : wp_X7_takesByte post s0 x1 := by
  unfold wp_X7_takesByte
  have e0 : (0 : Int32).toInt = 0 := rfl
  have e1 : (1 : Int32).toInt = 1 := rfl
  refine wq_X7_nextByte h h6 (fun r u hu ju b1 b2 bE b3 => ⟨fun c => k _ _ hu ju b1 (Or.inl e0) bE (fun _ _ => e0), fun c => ?_⟩)
  have c2 := q_eq c
  have pn := hu.2.2.1
  have s1 := nw (tq_addr e1 (u.1 6)) (by omega)
  have e6 : (((va_up u.1 6 ((u.1 6) + 1)), u.2.1, u.2.2.1, u.2.2.2) : Md).1 6 = u.1 6 + 1 := rfl
  refine k _ _ (mb_i hu rfl rfl rfl) (ie_up ju (by decide)) ?_ (Or.inr ⟨e1, ?_⟩) bE (fun g1 g2 => ?_)
  · rw [e6]
    omega
  · rw [e6]
    omega
  · exfalso
    have e := b3.2.2 g1
    have q := b3.1
    rw [e] at q
    exact g2 (q.symm.trans c)
theorem wq_X7_mustByte {post : Int32 → Md → Prop} {s0 : Md} {x1 : Int32} {N R W D : Int} (h : mb N R W D s0) (h6 : 0 ≤ (s0.1 6).toInt ∧ (s0.1 6).toInt ≤ N) (hx : ¬ x1.toInt = -1) (k : ∀ (r : Int32) (u : Md), mb N R W D u → ie [6, 7] u.1 s0.1 → (s0.1 6).toInt ≤ (u.1 6).toInt ∧ (u.1 6).toInt ≤ N → (r.toInt = 0 ∨ (r.toInt = 1 ∧ (s0.1 6).toInt < (u.1 6).toInt)) → u.2 = s0.2 → (¬ tb7 s0 (s0.1 6) = 32 → ¬ tb7 s0 (s0.1 6) = x1 → r.toInt = 0) → post r u) : wp_X7_mustByte post s0 x1 := by
  unfold wp_X7_mustByte
  have e0 : (0 : Int32).toInt = 0 := rfl
  have e1 : (1 : Int32).toInt = 1 := rfl
  refine wq_X7_takesByte h h6 hx (fun r u hu ju b1 b2 bE b3 => ⟨fun c => ?_, fun c => ?_⟩)
  · have c2 := q_neq c
    refine k _ _ hu (ie_tr ju (by decide) (ie_refl _ _)) b1 (Or.inr ⟨e1, by omega⟩) bE (fun g1 g2 => ?_)
    have := b3 g1 g2
    omega
  · unfold wp_X7_fails
    exact ⟨fun _ => k _ _ (mb_i hu rfl rfl rfl) (ie_up (ie_tr ju (by decide) (ie_refl _ _)) (by decide)) b1 (Or.inl e0) bE (fun _ _ => e0), fun g => absurd rfl g⟩
theorem wq_X7_readsNumber_L40 {post : Int32 → Md → Prop} {e107 : Md → Int32 → Int32 → Prop} {N R W D G Y Z : Int} {A : Nat → Int32} {B : Int64 × (Nat → Nat → Int64) × (Nat → Nat → Int32)} (ke107 : ∀ (t0 : Md) (z1 : Int32) (z2 : Int32), mb (N) (R) (W) (D) t0 → ie [6, 8] t0.1 A → 0 ≤ (t0.1 6).toInt ∧ (t0.1 6).toInt ≤ N ∧ G ≤ (t0.1 6).toInt → (z1).toInt = Y → (z2).toInt = Z → t0.2 = B → e107 t0 z1 z2) : ∀ (n : Nat) (t0 : Md) (z1 : Int32) (z2 : Int32), mb (N) (R) (W) (D) t0 → ie [6, 8] t0.1 A → 0 ≤ (t0.1 6).toInt ∧ (t0.1 6).toInt ≤ N ∧ G ≤ (t0.1 6).toInt → (z1).toInt = Y → (z2).toInt = Z → t0.2 = B → N - (t0.1 6).toInt < (n : Int) → wp_X7_readsNumber_L40 post e107 n t0 z1 z2 := by
  intro n
  induction n with
  | zero =>
    intro t0 z1 z2 i102220 i102221 i102222 i102223 i102224 i102225 i102226
    have := i102220.1
    have := i102220.2.1
    have := i102220.2.2.1
    have := i102220.2.2.2.1
    exfalso
    omega
  | succ n ih =>
    intro t0 z1 z2 i102220 i102221 i102222 i102223 i102224 i102225 i102226
    unfold wp_X7_readsNumber_L40
    have := i102220.1
    have := i102220.2.1
    have := i102220.2.2.1
    have := i102220.2.2.2.1
    have p102227 : 0 ≤ (t0.1 6).toInt := by omega
    refine wq_X7_byteAt i102220 p102227 (fun r_6 q102228 q102229 => ?_)
    refine wq_X7_in (fun r_8 q102230 => ?_)
    try simp only [lj_48, lj_57] at q102230
    have := tq_64 r_6
    refine ⟨fun c102231 => ?_, fun c102232 => ?_⟩
    · replace c102231 := q_eq c102231
      rw [li_0] at c102231
      have p102233 : ie [6, 8] t0.1 A := (ie_tr i102221 (by decide) (ie_refl _ _))
      have p102234 : 0 ≤ (t0.1 6).toInt ∧ (t0.1 6).toInt ≤ N ∧ G ≤ (t0.1 6).toInt := by omega
      have p102235 : (z1).toInt = Y := by omega
      have p102236 : (z2).toInt = Z := by omega
      have p102237 : t0.2 = B := i102225
      exact ke107 _ _ _ i102220 p102233 p102234 p102235 p102236 p102237
    · replace c102232 := q_neq c102232
      rw [li_0] at c102232
      refine ⟨fun c102238 => ?_, fun c102239 => ?_⟩
      · replace c102238 := q_le c102238
        rw [li_10000] at c102238
        have : (t0.1 5).toInt = (A 5).toInt := ie_i i102221 5 (by decide)
        have p102240 : (t0.1 5).toInt = N := by omega
        have : (t0.1 0).toInt = (A 0).toInt := ie_i i102221 0 (by decide)
        have p102241 : 0 ≤ (t0.1 0).toInt ∧ (t0.1 0).toInt ≤ 10 := by omega
        have p102242 : 0 ≤ N ∧ N ≤ 400 := by omega
        have p102243 : 0 ≤ R ∧ R ≤ 6 ∧ 0 ≤ W ∧ W ≤ 10 ∧ 0 ≤ R * W ∧ R * W ≤ 40 ∧ 0 ≤ D ∧ D ≤ 4 ∧ (D ≤ 0 ∨ 1 ≤ R) ∧ (1 ≤ R ∨ R * W = 0) := by omega
        have B102244 : mb (N) (R) (W) (D) ((va_up t0.1 6 ((t0.1 6) + 1)), t0.2.1, t0.2.2.1, t0.2.2.2) := ⟨p102240, p102241, p102242, p102243, i102220.2.2.2.2.1, i102220.2.2.2.2.2.1, i102220.2.2.2.2.2.2.1, i102220.2.2.2.2.2.2.2⟩
        have p102245 : ie [6, 8] (va_up t0.1 6 ((t0.1 6) + 1)) A := (ie_up (ie_tr i102221 (by decide) (ie_refl _ _)) (by decide))
        have e102246 := tq_addr li_1 (t0.1 6)
        try rw [Int.emod_eq_of_lt (show 0 ≤ (t0.1 6).toInt + 1 + 2147483648 by omega) (show (t0.1 6).toInt + 1 + 2147483648 < 4294967296 by omega)] at e102246
        have p102247 : 0 ≤ ((t0.1 6) + 1).toInt ∧ ((t0.1 6) + 1).toInt ≤ N ∧ G ≤ ((t0.1 6) + 1).toInt := by omega
        have p102248 : (z1).toInt = Y := by omega
        have p102249 : (z2).toInt = Z := by omega
        have p102250 : t0.2 = B := i102225
        have p102251 : N - ((t0.1 6) + 1).toInt < ((n : Nat) : Int) := by (omega)
        exact ih _ _ _ B102244 p102245 p102247 p102248 p102249 p102250 p102251
      · replace c102239 := q_nle c102239
        rw [li_10000] at c102239
        have p102252 : 0 ≤ (t0.1 6).toInt := by omega
        refine wq_X7_byteAt i102220 p102252 (fun r_12 q102253 q102254 => ?_)
        have : (t0.1 5).toInt = (A 5).toInt := ie_i i102221 5 (by decide)
        have p102255 : (t0.1 5).toInt = N := by omega
        have : (t0.1 0).toInt = (A 0).toInt := ie_i i102221 0 (by decide)
        have p102256 : 0 ≤ (t0.1 0).toInt ∧ (t0.1 0).toInt ≤ 10 := by omega
        have p102257 : 0 ≤ N ∧ N ≤ 400 := by omega
        have p102258 : 0 ≤ R ∧ R ≤ 6 ∧ 0 ≤ W ∧ W ≤ 10 ∧ 0 ≤ R * W ∧ R * W ≤ 40 ∧ 0 ≤ D ∧ D ≤ 4 ∧ (D ≤ 0 ∨ 1 ≤ R) ∧ (1 ≤ R ∨ R * W = 0) := by omega
        have B102259 : mb (N) (R) (W) (D) ((va_up (va_up t0.1 6 ((t0.1 6) + 1)) 8 (((10 * (t0.1 8)) + r_12) - 48)), t0.2.1, t0.2.2.1, t0.2.2.2) := ⟨p102255, p102256, p102257, p102258, i102220.2.2.2.2.1, i102220.2.2.2.2.2.1, i102220.2.2.2.2.2.2.1, i102220.2.2.2.2.2.2.2⟩
        have p102260 : ie [6, 8] (va_up (va_up t0.1 6 ((t0.1 6) + 1)) 8 (((10 * (t0.1 8)) + r_12) - 48)) A := (ie_up (ie_up (ie_tr i102221 (by decide) (ie_refl _ _)) (by decide)) (by decide))
        have e102261 := tq_addr li_1 (t0.1 6)
        try rw [Int.emod_eq_of_lt (show 0 ≤ (t0.1 6).toInt + 1 + 2147483648 by omega) (show (t0.1 6).toInt + 1 + 2147483648 < 4294967296 by omega)] at e102261
        have p102262 : 0 ≤ ((t0.1 6) + 1).toInt ∧ ((t0.1 6) + 1).toInt ≤ N ∧ G ≤ ((t0.1 6) + 1).toInt := by omega
        have p102263 : (z1).toInt = Y := by omega
        have p102264 : (z2).toInt = Z := by omega
        have p102265 : t0.2 = B := i102225
        have p102266 : N - ((t0.1 6) + 1).toInt < ((n : Nat) : Int) := by (omega)
        exact ih _ _ _ B102259 p102260 p102262 p102263 p102264 p102265 p102266
