/-! Reading a text: the class beside the reference, both runs given. -/
theorem dt_both {O : Type} {F : (O → Prop) → Prop} (h : dt F F) {P Q : O → Prop} (a : F P) (b : F Q) : ∃ o, P o ∧ Q o := by
  obtain ⟨o, p, _, d⟩ := h P a
  exact ⟨o, p, d Q b⟩
def tb5 (t : Tp) (x : Int32) : Int32 := if t.1 0 ≤ x then -1 else t.2 (Int32.toNatClampNeg x)
def RX (t : Tp) (s : Md) : Prop := t.1 0 = s.1 5 ∧ t.2 = (fun k => s.2.2.2 2 k &&& 255) ∧ 0 ≤ (s.1 5).toInt ∧ (s.1 5).toInt ≤ 400 ∧ (∀ k, -128 ≤ (s.2.2.2 2 k).toInt ∧ (s.2.2.2 2 k).toInt ≤ 127)
def RT (t : Tp) (s : Md) : Prop := RX t s ∧ t.1 1 = s.1 6 ∧ 0 ≤ (s.1 6).toInt ∧ (s.1 6).toInt ≤ (s.1 5).toInt ∧ t.1 5 = 0
def FR (t u : Tp) (s v : Md) : Prop := ie [1, 2, 3, 4, 5] u.1 t.1 ∧ u.2 = t.2 ∧ ie [6, 7, 8, 9, 10, 11] v.1 s.1 ∧ v.2 = s.2
def FL (u : Tp) (v : Md) : Prop := u.1 5 = v.1 7 ∧ ¬ u.1 5 = 0
theorem tb_eq {t : Tp} {s : Md} (h : RX t s) (x : Int32) : tb5 t x = tb7 s x := by
  simp only [tb5, tb7, h.1, h.2.1]
theorem tb7_r (s : Md) (x : Int32) : (s.1 5 ≤ x ∧ tb7 s x = -1) ∨ (¬ s.1 5 ≤ x ∧ 0 ≤ (tb7 s x).toInt ∧ (tb7 s x).toInt ≤ 255) := by
  unfold tb7
  by_cases c : s.1 5 ≤ x
  · rw [if_pos c]
    exact Or.inl ⟨c, rfl⟩
  · rw [if_neg c]
    exact Or.inr ⟨c, and255 _⟩
theorem tb7_lt {s : Md} {x : Int32} (h : ¬ tb7 s x = -1) : x.toInt < (s.1 5).toInt := by
  rcases tb7_r s x with g | g
  · exact absurd g.2 h
  · exact q_nle g.1
theorem FR_rf (t : Tp) (s : Md) : FR t t s s := ⟨fun _ _ => rfl, rfl, fun _ _ => rfl, rfl⟩
theorem FR_tr {t u w : Tp} {s v x : Md} (a : FR t u s v) (b : FR u w v x) : FR t w s x := ⟨fun k h => (b.1 k h).trans (a.1 k h), b.2.1.trans a.2.1, fun k h => (b.2.2.1 k h).trans (a.2.2.1 k h), b.2.2.2.trans a.2.2.2⟩
theorem FR_rt {t u w : Tp} {s v x : Md} (b : FR u w v x) (a : FR t u s v) : FR t w s x := FR_tr a b
theorem RX_fr {t u : Tp} {s v : Md} (h : RX t s) (f : FR t u s v) : RX u v := by
  have e0 : u.1 0 = t.1 0 := f.1 0 (by decide)
  have e5 : v.1 5 = s.1 5 := f.2.2.1 5 (by decide)
  unfold RX
  rw [e0, e5, f.2.1, f.2.2.2]
  exact h
theorem tb_fr {t u : Tp} {s v : Md} (f : FR t u s v) (x : Int32) : tb7 v x = tb7 s x := by
  have e5 : v.1 5 = s.1 5 := f.2.2.1 5 (by decide)
  unfold tb7
  rw [e5, f.2.2.2]
theorem e5_byteAt {P : Int32 → Prop} {t : Tp} {x : Int32} (hx : 0 ≤ x.toInt) (h : wp_X5_byteAt P t x) : P (tb5 t x) := by
  unfold wp_X5_byteAt at h
  have h := h.2 (fun c => by
    have := q_lt c
    have e0 : (0 : Int32).toInt = 0 := rfl
    omega)
  unfold tb5
  by_cases c : t.1 0 ≤ x
  · rw [if_pos c]
    exact h.1 c
  · rw [if_neg c]
    exact (h.2 c).2
theorem e7_byteAt {P : Int32 → Prop} {s : Md} {x : Int32} (h : wp_X7_byteAt P s x) : P (tb7 s x) := by
  unfold wp_X7_byteAt at h
  unfold tb7
  by_cases c : s.1 5 ≤ x
  · rw [if_pos c]
    exact h.1 c
  · rw [if_neg c]
    exact (h.2 c).2
theorem e7_in {P : Int32 → Prop} {y a b : Int64} (h : wp_X7_in P y a b) : (P 1 ∧ a.toInt ≤ y.toInt ∧ y.toInt ≤ b.toInt) ∨ (P 0 ∧ (y.toInt < a.toInt ∨ b.toInt < y.toInt)) := by
  unfold wp_X7_in at h
  by_cases c : lg_cmp y a < 0
  · exact Or.inr ⟨h.1 c, Or.inl (Int64.lt_iff_toInt_lt.mp ((lg_cmp_lt _ _).mp c))⟩
  · have c1 : ¬ y.toInt < a.toInt := fun g => c ((lg_cmp_lt _ _).mpr (Int64.lt_iff_toInt_lt.mpr g))
    by_cases d : 0 < lg_cmp y b
    · exact Or.inr ⟨(h.2 c).1 d, Or.inr (Int64.lt_iff_toInt_lt.mp ((lg_cmp_gt _ _).mp d))⟩
    · have d1 : ¬ b.toInt < y.toInt := fun g => d ((lg_cmp_gt _ _).mpr (Int64.lt_iff_toInt_lt.mpr g))
      exact Or.inl ⟨(h.2 c).2 d, by omega, by omega⟩
theorem e7_in32 {P : Int32 → Prop} {y a b : Int32} (h : wp_X7_in P (Int32.toInt64 y) (Int32.toInt64 a) (Int32.toInt64 b)) : (P 1 ∧ a.toInt ≤ y.toInt ∧ y.toInt ≤ b.toInt) ∨ (P 0 ∧ (y.toInt < a.toInt ∨ b.toInt < y.toInt)) := by
  have h := e7_in h
  rw [tq_64, tq_64, tq_64] at h
  exact h
theorem e7_inC {P : Int32 → Prop} {y : Int32} {a b : Int64} {i j : Int} (ha : a.toInt = i) (hb : b.toInt = j) (h : wp_X7_in P (Int32.toInt64 y) a b) : (P 1 ∧ i ≤ y.toInt ∧ y.toInt ≤ j) ∨ (P 0 ∧ (y.toInt < i ∨ j < y.toInt)) := by
  have h := e7_in h
  rw [tq_64, ha, hb] at h
  exact h
theorem fl_ne {p k : Int32} (h1 : 0 ≤ p.toInt) (h2 : p.toInt ≤ 400) (h3 : 1 ≤ k.toInt) (h4 : k.toInt ≤ 4) : ¬ 8 * p + k = 0 := fun h => by
  have e8 : (8 : Int32).toInt = 8 := rfl
  have e0 : (0 : Int32).toInt = 0 := rfl
  have a := nw (tq_mulc e8 p) (by omega)
  have b := nw (tq_add (8 * p) k) (by omega)
  have c := q_eq h
  omega
theorem sm_fault {P6 : Tp → Prop} {P7 : Int32 → Md → Prop} {t : Tp} {s : Md} {p p7 k : Int32} (h5 : t.1 5 = 0) (hp : p = p7) (h1 : 0 ≤ p7.toInt) (h2 : p7.toInt ≤ 400) (h3 : 1 ≤ k.toInt) (h4 : k.toInt ≤ 4) (h6 : wp_X5_blame P6 t p k) (h7 : wp_X7_fails P7 s k p7) : ∃ u v, P6 u ∧ P7 0 v ∧ FR t u s v ∧ FL u v := by
  unfold wp_X5_blame at h6
  unfold wp_X7_fails at h7
  subst hp
  exact ⟨_, _, h6.2 h5, h7, ⟨ie_up (ie_refl _ _) (by decide), rfl, ie_up (ie_refl _ _) (by decide), rfl⟩, rfl, fl_ne h1 h2 h3 h4⟩
theorem RT_step {t : Tp} {s : Md} (h : RT t s) (hl : (s.1 6).toInt < (s.1 5).toInt) : RT ((va_up t.1 1 ((t.1 1) + 1)), t.2) ((va_up s.1 6 ((s.1 6) + 1)), s.2.1, s.2.2.1, s.2.2.2) := by
  have e1 : (1 : Int32).toInt = 1 := rfl
  have b := h.1.2.2
  have c := h.2.2
  have a := nw (tq_addr e1 (s.1 6)) (by omega)
  refine ⟨h.1, ?_, ?_, ?_, h.2.2.2.2⟩
  · show t.1 1 + 1 = s.1 6 + 1
    rw [h.2.1]
  · show 0 ≤ (s.1 6 + 1).toInt
    omega
  · show (s.1 6 + 1).toInt ≤ (s.1 5).toInt
    omega
theorem FR_step (t : Tp) (s : Md) (x y : Int32) : FR t ((va_up t.1 1 x), t.2) s ((va_up s.1 6 y), s.2.1, s.2.2.1, s.2.2.2) := ⟨ie_up (ie_refl _ _) (by decide), rfl, ie_up (ie_refl _ _) (by decide), rfl⟩
theorem sm_peek_L {p6 : Int32 → Tp → Prop} {e6 : Tp → Prop} {p7 : Int32 → Md → Prop} {e7 : Md → Prop} : ∀ (n6 n7 : Nat) (t : Tp) (s : Md), RT t s → wp_X5_peek_L0 p6 e6 n6 t → wp_X7_nextByte_L0 p7 e7 n7 s → ∃ u v, e6 u ∧ e7 v ∧ RT u v ∧ FR t u s v ∧ ¬ tb7 v (v.1 6) = 32 ∧ (s.1 6).toInt ≤ (v.1 6).toInt ∧ (¬ tb7 s (s.1 6) = 32 → u = t ∧ v = s) := by
  intro n6
  induction n6 with
  | zero =>
    intro n7 t s _ h6
    exact (show False from h6).elim
  | succ n6 ih =>
    intro n7 t s hR h6 h7
    cases n7 with
    | zero => exact (show False from h7).elim
    | succ n7 =>
      unfold wp_X5_peek_L0 at h6
      unfold wp_X7_nextByte_L0 at h7
      have h7 := e7_byteAt h7
      have eb := tb_eq hR.1 (s.1 6)
      by_cases d : tb7 s (s.1 6) = 32
      · have lt : (s.1 6).toInt < (s.1 5).toInt := tb7_lt (by rw [d]; decide)
        have c : ¬ t.1 0 ≤ t.1 1 := fun c => by
          rw [hR.1.1, hR.2.1] at c
          have := q_le c
          omega
        have h6 := (h6.2 c).2.2 (by
          have e := eb.trans d
          unfold tb5 at e
          rw [← hR.2.1, if_neg c] at e
          exact e)
        have h7 := h7.2 d
        have e1 : (1 : Int32).toInt = 1 := rfl
        have b := hR.1.2.2
        have a := nw (tq_addr e1 (s.1 6)) (by have := hR.2.2; omega)
        obtain ⟨u, v, a1, a2, a3, a4, a5, a6, _⟩ := ih n7 _ _ (RT_step hR lt) h6 h7
        have a6 : (s.1 6 + 1).toInt ≤ (v.1 6).toInt := a6
        exact ⟨u, v, a1, a2, a3, FR_tr (FR_step t s _ _) a4, a5, by omega, fun g => absurd d g⟩
      · refine ⟨t, s, ?_, h7.1 d, hR, FR_rf t s, d, Int.le_refl _, fun _ => ⟨rfl, rfl⟩⟩
        by_cases c : t.1 0 ≤ t.1 1
        · exact h6.1 c
        · refine (h6.2 c).2.1 (fun g => d ?_)
          rw [← eb]
          unfold tb5
          rw [← hR.2.1, if_neg c]
          exact g
theorem sm_peek {P6 : Int32 → Tp → Prop} {P7 : Int32 → Md → Prop} {t : Tp} {s : Md} (hR : RT t s) (h6 : wp_X5_peek P6 t) (h7 : wp_X7_nextByte P7 s) : ∃ u v, P6 (tb7 v (v.1 6)) u ∧ P7 (tb7 v (v.1 6)) v ∧ RT u v ∧ FR t u s v ∧ ¬ tb7 v (v.1 6) = 32 ∧ (s.1 6).toInt ≤ (v.1 6).toInt ∧ (¬ tb7 s (s.1 6) = 32 → u = t ∧ v = s) := by
  unfold wp_X5_peek at h6
  unfold wp_X7_nextByte at h7
  obtain ⟨n6, h6⟩ := h6
  obtain ⟨n7, h7⟩ := h7
  obtain ⟨u, v, a1, a2, a3, a4, a5, a6, a7⟩ := sm_peek_L n6 n7 t s hR h6 h7
  refine ⟨u, v, ?_, e7_byteAt a2, a3, a4, a5, a6, a7⟩
  rw [← tb_eq a3.1 (v.1 6)]
  unfold tb5
  by_cases c : u.1 0 ≤ u.1 1
  · rw [← a3.2.1, if_pos c]
    exact a1.1 c
  · rw [← a3.2.1, if_neg c]
    exact (a1.2 c).2
theorem sm_takeByte {P6 : Tp → Prop} {P7 : Int32 → Md → Prop} {t : Tp} {s : Md} {x : Int32} (hx : ¬ x = -1) (hR : RT t s) (h6 : wp_X5_takeByte P6 t x) (h7 : wp_X7_mustByte P7 s x) : ∃ u r v, P6 u ∧ P7 r v ∧ FR t u s v ∧ ((r = 1 ∧ RT u v ∧ (s.1 6).toInt < (v.1 6).toInt) ∨ (r = 0 ∧ FL u v)) := by
  unfold wp_X5_takeByte at h6
  unfold wp_X7_mustByte wp_X7_takesByte at h7
  obtain ⟨u, v, a1, a2, a3, a4, a5, a6, _⟩ := sm_peek hR h6 h7
  by_cases c : tb7 v (v.1 6) = x
  · have lt : (v.1 6).toInt < (v.1 5).toInt := tb7_lt (by rw [c]; exact hx)
    have e1 : (1 : Int32).toInt = 1 := rfl
    have b := a3.1.2.2
    have bd := a3.2.2
    have s1 := nw (tq_addr e1 (v.1 6)) (by omega)
    refine ⟨_, _, _, a1.2 c, (a2.2 c).1 (by decide), FR_tr a4 (FR_step u v _ _), Or.inl ⟨rfl, RT_step a3 lt, ?_⟩⟩
    show (s.1 6).toInt < (v.1 6 + 1).toInt
    omega
  · have b := a3.1.2.2
    have d := a3.2.2
    obtain ⟨w, y, b1, b2, b3, b4⟩ := sm_fault a3.2.2.2.2 a3.2.1 (by omega) (by omega) (by decide) (by decide) (a1.1 c) ((a2.1 c).2 rfl)
    exact ⟨w, 0, y, b1, b2.1 rfl, FR_tr a4 b3, Or.inr ⟨rfl, b4⟩⟩
/-! A number. -/
def VR (z w : Int32) : Prop := (z = w ∧ 0 ≤ w.toInt ∧ w.toInt < 1000) ∨ (z.toInt = 1000 ∧ 1000 ≤ w.toInt ∧ w.toInt ≤ 200000)
theorem VR_on {z w r : Int32} (h : VR z w) (h1 : 48 ≤ r.toInt) (h2 : r.toInt ≤ 57) : (10000 ≤ w → VR (if (((z * 10) + r) - 48) < (1000 : Int32) then (((z * 10) + r) - 48) else (1000 : Int32)) w) ∧ (¬ 10000 ≤ w → VR (if (((z * 10) + r) - 48) < (1000 : Int32) then (((z * 10) + r) - 48) else (1000 : Int32)) (((10 * w) + r) - 48)) := by
  have e10 : (10 : Int32).toInt = 10 := rfl
  have e48 : (48 : Int32).toInt = 48 := rfl
  have eK : (1000 : Int32).toInt = 1000 := rfl
  have eX : (10000 : Int32).toInt = 10000 := rfl
  have z1 : 0 ≤ z.toInt ∧ z.toInt ≤ 1000 := by
    rcases h with ⟨rfl, a, b⟩ | a <;> omega
  have a1 := nw (tq_mulr e10 z) (by omega)
  have a2 := nw (tq_add (z * 10) r) (by omega)
  have a3 := nw (tq_subr e48 ((z * 10) + r)) (by omega)
  refine ⟨fun c => ?_, fun c => ?_⟩
  · have c1 := q_le c
    rcases h with ⟨rfl, a, b⟩ | ⟨a, b, d⟩
    · exfalso
      omega
    · have n : ¬ (((z * 10) + r) - 48) < (1000 : Int32) := fun g => by
        have := q_lt g
        omega
      rw [if_neg n]
      exact Or.inr ⟨rfl, b, d⟩
  · have c1 := q_nle c
    have w1 : 0 ≤ w.toInt := by
      rcases h with ⟨rfl, a, b⟩ | a <;> omega
    have b1 := nw (tq_mulc e10 w) (by omega)
    have b2 := nw (tq_add (10 * w) r) (by omega)
    have b3 := nw (tq_subr e48 ((10 * w) + r)) (by omega)
    by_cases g : (((z * 10) + r) - 48) < (1000 : Int32)
    · have g1 := q_lt g
      rw [if_pos g]
      rcases h with ⟨rfl, a, b⟩ | ⟨a, b, d⟩
      · exact Or.inl ⟨Int32.toInt_inj.mp (by omega), by omega, by omega⟩
      · exfalso
        omega
    · have g1 := q_nlt g
      rw [if_neg g]
      refine Or.inr ⟨rfl, ?_, by omega⟩
      rcases h with ⟨rfl, a, b⟩ | ⟨a, b, d⟩ <;> omega
theorem sm_num_L {p6 : Int32 → Tp → Prop} {e6 : Tp → Int32 → Int32 → Int32 → Prop} {p7 : Int32 → Md → Prop} {e7 : Md → Int32 → Int32 → Prop} {lo hi : Int32} : ∀ (n6 n7 : Nat) (t : Tp) (s : Md) (z : Int32), RT t s → VR z (s.1 8) → wp_X5_takeNumber_L15 p6 e6 n6 t lo hi z → wp_X7_readsNumber_L40 p7 e7 n7 s lo hi → ∃ u v z', e6 u lo hi z' ∧ e7 v lo hi ∧ RT u v ∧ FR t u s v ∧ VR z' (v.1 8) ∧ u.1 2 = t.1 2 ∧ v.1 9 = s.1 9 ∧ (s.1 6).toInt ≤ (v.1 6).toInt ∧ (48 ≤ (tb7 s (s.1 6)).toInt ∧ (tb7 s (s.1 6)).toInt ≤ 57 → (s.1 6).toInt < (v.1 6).toInt) := by
  have e48 : (48 : Int32).toInt = 48 := rfl
  have e57 : (57 : Int32).toInt = 57 := rfl
  intro n6
  induction n6 with
  | zero =>
    intro n7 t s z _ _ h6
    exact (show False from h6).elim
  | succ n6 ih =>
    intro n7 t s z hR hV h6 h7
    cases n7 with
    | zero => exact (show False from h7).elim
    | succ n7 =>
      unfold wp_X5_takeNumber_L15 at h6
      unfold wp_X7_readsNumber_L40 at h7
      have h7 := e7_inC (i := 48) (j := 57) rfl rfl (e7_byteAt h7)
      have eb := tb_eq hR.1 (s.1 6)
      have bb := hR.1.2.2
      have bc := hR.2.2
      have p0 : 0 ≤ (t.1 1).toInt := by rw [hR.2.1]; omega
      have e61 : t.1 1 = s.1 6 := hR.2.1
      rcases h7 with ⟨h7, d1, d2⟩ | ⟨h7, d⟩
      · have lt : (s.1 6).toInt < (s.1 5).toInt := tb7_lt (fun g => by rw [g] at d1; exact absurd d1 (by decide))
        have c : ¬ t.1 0 ≤ t.1 1 := fun c => by
          rw [hR.1.1, e61] at c
          have := q_le c
          omega
        have eb2 : tb5 t (t.1 1) = tb7 s (s.1 6) := by rw [e61]; exact eb
        have k1 := e5_byteAt p0 (h6.2 c)
        rw [eb2] at k1
        have k2 := e5_byteAt p0 (k1.2 (fun g => by have := q_lt g; omega))
        rw [eb2] at k2
        have k3 := e5_byteAt p0 (k2.2 (fun g => by have := q_lt g; omega))
        rw [eb2] at k3
        have h7 := h7.2 (by decide)
        have e1 : (1 : Int32).toInt = 1 := rfl
        have a := nw (tq_addr e1 (s.1 6)) (by omega)
        have vo := VR_on hV d1 d2
        by_cases g : 10000 ≤ s.1 8
        · obtain ⟨u, v, z', a1, a2, a3, a4, a5, a6, a7, a8, _⟩ := ih n7 _ _ _ (RT_step hR lt) (show VR _ (s.1 8) from vo.1 g) k3 (h7.1 g)
          have a8 : (s.1 6 + 1).toInt ≤ (v.1 6).toInt := a8
          exact ⟨u, v, z', a1, a2, a3, FR_tr (FR_step t s _ _) a4, a5, a6, a7, by omega, fun _ => by omega⟩
        · have h7 := e7_byteAt (h7.2 g)
          obtain ⟨u, v, z', a1, a2, a3, a4, a5, a6, a7, a8, _⟩ := ih n7 _ _ _ (show RT _ ((va_up (va_up s.1 6 ((s.1 6) + 1)) 8 (((10 * (s.1 8)) + tb7 s (s.1 6)) - 48)), s.2.1, s.2.2.1, s.2.2.2) from RT_step hR lt) (show VR _ (((10 * (s.1 8)) + tb7 s (s.1 6)) - 48) from vo.2 g) k3 h7
          have a8 : (s.1 6 + 1).toInt ≤ (v.1 6).toInt := a8
          exact ⟨u, v, z', a1, a2, a3, FR_rt a4 ⟨ie_up (ie_refl _ _) (by decide), rfl, ie_up (ie_up (ie_refl _ _) (by decide)) (by decide), rfl⟩, a5, a6, a7, by omega, fun _ => by omega⟩
      · refine ⟨t, s, z, ?_, h7.1 rfl, hR, FR_rf t s, hV, rfl, rfl, Int.le_refl _, fun g => by omega⟩
        by_cases c : t.1 0 ≤ t.1 1
        · exact h6.1 c
        · have eb2 : tb5 t (t.1 1) = tb7 s (s.1 6) := by rw [e61]; exact eb
          have k1 := e5_byteAt p0 (h6.2 c)
          rw [eb2] at k1
          by_cases f : tb7 s (s.1 6) < 48
          · exact k1.1 f
          · have k2 := e5_byteAt p0 (k1.2 f)
            rw [eb2] at k2
            have f1 := q_nlt f
            exact k2.1 (Int32.lt_iff_toInt_lt.mpr (by omega))
theorem sm_number {P6 : Int32 → Tp → Prop} {P7 : Int32 → Md → Prop} {t : Tp} {s : Md} {lo hi : Int32} (hR : RT t s) (hlo : 0 ≤ lo.toInt) (hhi : hi.toInt < 1000) (h6 : wp_X5_takeNumber P6 t lo hi) (h7 : wp_X7_readsNumber P7 s lo hi) : ∃ r u r7 v, P6 r u ∧ P7 r7 v ∧ FR t u s v ∧ ((r7 = 1 ∧ RT u v ∧ r = v.1 8 ∧ lo.toInt ≤ r.toInt ∧ r.toInt ≤ hi.toInt ∧ u.1 2 = v.1 9 ∧ 0 ≤ (v.1 9).toInt ∧ (v.1 9).toInt ≤ 400 ∧ (s.1 6).toInt < (v.1 6).toInt) ∨ (r7 = 0 ∧ FL u v)) := by
  have e48 : (48 : Int32).toInt = 48 := rfl
  have e57 : (57 : Int32).toInt = 57 := rfl
  unfold wp_X5_takeNumber at h6
  unfold wp_X7_readsNumber at h7
  obtain ⟨u, v, a1, a2, a3, a4, a5, a6, _⟩ := sm_peek hR h6 h7
  obtain ⟨n6, h6⟩ := a1
  have h7 := e7_inC (i := 48) (j := 57) rfl rfl a2
  have bb := a3.1.2.2
  have bc := a3.2.2
  rcases h7 with ⟨h7, d1, d2⟩ | ⟨h7, d⟩
  · obtain ⟨n7, h7⟩ := h7.1 (by decide)
    obtain ⟨u2, v2, z2, b1, b2, b3, b4, b5, b6, b7, b8, b9⟩ := sm_num_L n6 n7 _ _ 0 (show RT ((va_up u.1 2 (u.1 1)), u.2) ((va_up (va_up v.1 8 0) 9 (v.1 6)), v.2.1, v.2.2.1, v.2.2.2) from a3) (show VR 0 (0 : Int32) from Or.inl ⟨rfl, by decide, by decide⟩) h6 h7
    have b9 : (v.1 6).toInt < (v2.1 6).toInt := b9 ⟨d1, d2⟩
    have b6 : u2.1 2 = u.1 1 := b6
    have b7 : v2.1 9 = v.1 6 := b7
    have fr : FR t u2 s v2 := FR_tr a4 (FR_rt b4 ⟨ie_up (ie_refl _ _) (by decide), rfl, ie_up (ie_up (ie_refl _ _) (by decide)) (by decide), rfl⟩)
    have e26 : u2.1 2 = v2.1 9 := b6.trans (a3.2.1.trans b7.symm)
    have ne : ¬ u2.1 1 = u2.1 2 := fun g => by
      have g2 := q_eq ((b3.2.1.symm.trans g).trans (b6.trans a3.2.1))
      omega
    have b1 := b1.1 ne
    have n9 : 0 ≤ (v2.1 9).toInt ∧ (v2.1 9).toInt ≤ 400 := by rw [b7]; omega
    have b2 := e7_in32 b2
    rcases b2 with ⟨b2, f1, f2⟩ | ⟨b2, f⟩
    · have ez : z2 = v2.1 8 := by
        rcases b5 with g | g
        · exact g.1
        · exfalso
          omega
      have k := (b1.2 (fun g => by
        have := q_lt g
        rw [ez] at this
        omega)).1 (by
        rw [ez]
        exact Int32.le_iff_toInt_le.mpr f2)
      exact ⟨z2, u2, 1, v2, k, b2.1 (by decide), fr, Or.inl ⟨rfl, b3, ez, by rw [ez]; exact f1, by rw [ez]; exact f2, e26, n9.1, n9.2, by omega⟩⟩
    · have out : z2.toInt < lo.toInt ∨ hi.toInt < z2.toInt := by
        rcases b5 with g | g
        · rw [g.1]
          exact f
        · omega
      have k : wp_X5_blame (fun w => P6 lo w) u2 (u2.1 2) 2 := by
        by_cases c : z2 < lo
        · exact b1.1 c
        · have c1 := q_nlt c
          exact (b1.2 c).2 (fun g => by
            have := q_le g
            omega)
      obtain ⟨w, y, c1, c2, c3, c4⟩ := sm_fault b3.2.2.2.2 e26 n9.1 n9.2 (by decide) (by decide) k (b2.2 rfl)
      exact ⟨lo, w, 0, y, c1, c2.1 rfl, FR_tr fr c3, Or.inr ⟨rfl, c4⟩⟩
  · have h7 := h7.2 rfl
    cases n6 with
    | zero => exact (show False from h6).elim
    | succ n6 =>
      obtain ⟨w0, hw0⟩ : ∃ w : Tp, w = ((va_up u.1 2 (u.1 1)), u.2) := ⟨_, rfl⟩
      rw [← hw0] at h6
      unfold wp_X5_takeNumber_L15 at h6
      have r0 : RT w0 v := by rw [hw0]; exact a3
      have e2 : w0.1 1 = w0.1 2 := by rw [hw0]; rfl
      have fr : FR t w0 s v := FR_tr a4 ⟨by rw [hw0]; exact ie_up (ie_refl _ _) (by decide), by rw [hw0], fun _ _ => rfl, rfl⟩
      have e61 : w0.1 1 = v.1 6 := r0.2.1
      have eb : tb5 w0 (w0.1 1) = tb7 v (v.1 6) := by rw [e61]; exact tb_eq r0.1 _
      have p0 : 0 ≤ (w0.1 1).toInt := by rw [e61]; omega
      have k : wp_X5_blame (fun w => P6 lo w) w0 (w0.1 1) 1 := by
        by_cases c : w0.1 0 ≤ w0.1 1
        · exact (h6.1 c).2 e2
        · have k1 := e5_byteAt p0 (h6.2 c)
          rw [eb] at k1
          by_cases f : tb7 v (v.1 6) < 48
          · exact (k1.1 f).2 e2
          · have k2 := e5_byteAt p0 (k1.2 f)
            rw [eb] at k2
            have f1 := q_nlt f
            exact (k2.1 (Int32.lt_iff_toInt_lt.mpr (by omega))).2 e2
      obtain ⟨w, y, c1, c2, c3, c4⟩ := sm_fault r0.2.2.2.2 e61 (by omega) (by omega) (by decide) (by decide) k h7
      exact ⟨lo, w, 0, y, c1, c2.2, FR_tr fr c3, Or.inr ⟨rfl, c4⟩⟩
