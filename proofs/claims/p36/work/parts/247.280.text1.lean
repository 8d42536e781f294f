/-! Reading a text: the class beside the reference, both runs given. -/
theorem dt_both {O : Type} {F : (O → Prop) → Prop} (h : dt F F) {P Q : O → Prop} (a : F P) (b : F Q) : ∃ o, P o ∧ Q o := by
  obtain ⟨o, p, _, d⟩ := h P a
  exact ⟨o, p, d Q b⟩
def tb5 (t : Tp) (x : Int32) : Int32 := if t.1 0 ≤ x then -1 else t.2 (Int32.toNatClampNeg x)
def RX (t : Tp) (s : Md) : Prop := t.1 0 = s.1 5 ∧ t.2 = (fun k => s.2.2.2 2 k &&& 255) ∧ 0 ≤ (s.1 5).toInt ∧ (s.1 5).toInt ≤ 400 ∧ (∀ k, -128 ≤ (s.2.2.2 2 k).toInt ∧ (s.2.2.2 2 k).toInt ≤ 127)
def RT (t : Tp) (s : Md) : Prop := RX t s ∧ t.1 1 = s.1 6 ∧ 0 ≤ (s.1 6).toInt ∧ (s.1 6).toInt ≤ (s.1 5).toInt ∧ t.1 5 = 0
def FR (t u : Tp) (s v : Md) : Prop := ie [1, 2, 3, 4, 5] u.1 t.1 ∧ u.2 = t.2 ∧ ie [6, 7, 8, 9, 10, 11] v.1 s.1 ∧ v.2 = s.2
def FL (u : Tp) (v : Md) : Prop := u.1 5 = v.1 7 ∧ ¬ u.1 5 = 0
theorem tb_eq {t : Tp} {s : Md} (h : RX t s) (x : Int32) : tb5 t x = tb7 s x := by
  simp only [tb5, tb7, h.1, h.2.1]
theorem tb7_r (s : Md) (x : Int32) : (s.1 5 ≤ x ∧ tb7 s x = -1) ∨ (¬ s.1 5 ≤ x ∧ 0 ≤ (tb7 s x).toInt ∧ (tb7 s x).toInt ≤ 255) := by
  unfold tb7
  by_cases c : s.1 5 ≤ x
  · rw [if_pos c]
    exact Or.inl ⟨c, rfl⟩
  · rw [if_neg c]
    exact Or.inr ⟨c, and255 _⟩
theorem tb7_lt {s : Md} {x : Int32} (h : ¬ tb7 s x = -1) : x.toInt < (s.1 5).toInt := by
  rcases tb7_r s x with g | g
  · exact absurd g.2 h
  · exact q_nle g.1
theorem FR_rf (t : Tp) (s : Md) : FR t t s s := ⟨fun _ _ => rfl, rfl, fun _ _ => rfl, rfl⟩
theorem FR_tr {t u w : Tp} {s v x : Md} (a : FR t u s v) (b : FR u w v x) : FR t w s x := ⟨fun k h => (b.1 k h).trans (a.1 k h), b.2.1.trans a.2.1, fun k h => (b.2.2.1 k h).trans (a.2.2.1 k h), b.2.2.2.trans a.2.2.2⟩
theorem FR_rt {t u w : Tp} {s v x : Md} (b : FR u w v x) (a : FR t u s v) : FR t w s x := FR_tr a b
theorem RX_fr {t u : Tp} {s v : Md} (h : RX t s) (f : FR t u s v) : RX u v := by
  have e0 : u.1 0 = t.1 0 := f.1 0 (by decide)
  have e5 : v.1 5 = s.1 5 := f.2.2.1 5 (by decide)
  unfold RX
  rw [e0, e5, f.2.1, f.2.2.2]
  exact h
theorem e5_byteAt {P : Int32 → Prop} {t : Tp} {x : Int32} (hx : 0 ≤ x.toInt) (h : wp_X5_byteAt P t x) : P (tb5 t x) := by
  unfold wp_X5_byteAt at h
  have h := h.2 (fun c => by
    have := q_lt c
    have e0 : (0 : Int32).toInt = 0 := rfl
    omega)
  unfold tb5
  by_cases c : t.1 0 ≤ x
  · rw [if_pos c]
    exact h.1 c
  · rw [if_neg c]
    exact (h.2 c).2
theorem e7_byteAt {P : Int32 → Prop} {s : Md} {x : Int32} (h : wp_X7_byteAt P s x) : P (tb7 s x) := by
  unfold wp_X7_byteAt at h
  unfold tb7
  by_cases c : s.1 5 ≤ x
  · rw [if_pos c]
    exact h.1 c
  · rw [if_neg c]
    exact (h.2 c).2
theorem e7_in {P : Int32 → Prop} {y a b : Int64} (h : wp_X7_in P y a b) : (P 1 ∧ a.toInt ≤ y.toInt ∧ y.toInt ≤ b.toInt) ∨ (P 0 ∧ (y.toInt < a.toInt ∨ b.toInt < y.toInt)) := by
  unfold wp_X7_in at h
  by_cases c : lg_cmp y a < 0
  · exact Or.inr ⟨h.1 c, Or.inl (Int64.lt_iff_toInt_lt.mp ((lg_cmp_lt _ _).mp c))⟩
  · have c1 : ¬ y.toInt < a.toInt := fun g => c ((lg_cmp_lt _ _).mpr (Int64.lt_iff_toInt_lt.mpr g))
    by_cases d : 0 < lg_cmp y b
    · exact Or.inr ⟨(h.2 c).1 d, Or.inr (Int64.lt_iff_toInt_lt.mp ((lg_cmp_gt _ _).mp d))⟩
    · have d1 : ¬ b.toInt < y.toInt := fun g => d ((lg_cmp_gt _ _).mpr (Int64.lt_iff_toInt_lt.mpr g))
      exact Or.inl ⟨(h.2 c).2 d, by omega, by omega⟩
theorem e7_in32 {P : Int32 → Prop} {y a b : Int32} (h : wp_X7_in P (Int32.toInt64 y) (Int32.toInt64 a) (Int32.toInt64 b)) : (P 1 ∧ a.toInt ≤ y.toInt ∧ y.toInt ≤ b.toInt) ∨ (P 0 ∧ (y.toInt < a.toInt ∨ b.toInt < y.toInt)) := by
  have h := e7_in h
  rw [tq_64, tq_64, tq_64] at h
  exact h
theorem e7_inC {P : Int32 → Prop} {y : Int32} {a b : Int64} {i j : Int} (ha : a.toInt = i) (hb : b.toInt = j) (h : wp_X7_in P (Int32.toInt64 y) a b) : (P 1 ∧ i ≤ y.toInt ∧ y.toInt ≤ j) ∨ (P 0 ∧ (y.toInt < i ∨ j < y.toInt)) := by
  have h := e7_in h
  rw [tq_64, ha, hb] at h
  exact h
theorem fl_ne {p k : Int32} (h1 : 0 ≤ p.toInt) (h2 : p.toInt ≤ 400) (h3 : 1 ≤ k.toInt) (h4 : k.toInt ≤ 4) : ¬ 8 * p + k = 0 := fun h => by
  have e8 : (8 : Int32).toInt = 8 := rfl
  have e0 : (0 : Int32).toInt = 0 := rfl
  have a := nw (tq_mulc e8 p) (by omega)
  have b := nw (tq_add (8 * p) k) (by omega)
  have c := q_eq h
  omega
theorem sm_fault {P6 : Tp → Prop} {P7 : Int32 → Md → Prop} {t : Tp} {s : Md} {p p7 k : Int32} (h5 : t.1 5 = 0) (hp : p = p7) (h1 : 0 ≤ p7.toInt) (h2 : p7.toInt ≤ 400) (h3 : 1 ≤ k.toInt) (h4 : k.toInt ≤ 4) (h6 : wp_X5_blame P6 t p k) (h7 : wp_X7_fails P7 s k p7) : ∃ u v, P6 u ∧ P7 0 v ∧ FR t u s v ∧ FL u v := by
  unfold wp_X5_blame at h6
  unfold wp_X7_fails at h7
  subst hp
  exact ⟨_, _, h6.2 h5, h7, ⟨ie_up (ie_refl _ _) (by decide), rfl, ie_up (ie_refl _ _) (by decide), rfl⟩, rfl, fl_ne h1 h2 h3 h4⟩
theorem RT_step {t : Tp} {s : Md} (h : RT t s) (hl : (s.1 6).toInt < (s.1 5).toInt) : RT ((va_up t.1 1 ((t.1 1) + 1)), t.2) ((va_up s.1 6 ((s.1 6) + 1)), s.2.1, s.2.2.1, s.2.2.2) := by
  have e1 : (1 : Int32).toInt = 1 := rfl
  have b := h.1.2.2
  have c := h.2.2
  have a := nw (tq_addr e1 (s.1 6)) (by omega)
  refine ⟨h.1, ?_, ?_, ?_, h.2.2.2.2⟩
  · show t.1 1 + 1 = s.1 6 + 1
    rw [h.2.1]
  · show 0 ≤ (s.1 6 + 1).toInt
    omega
  · show (s.1 6 + 1).toInt ≤ (s.1 5).toInt
    omega
theorem FR_step (t : Tp) (s : Md) (x y : Int32) : FR t ((va_up t.1 1 x), t.2) s ((va_up s.1 6 y), s.2.1, s.2.2.1, s.2.2.2) := ⟨ie_up (ie_refl _ _) (by decide), rfl, ie_up (ie_refl _ _) (by decide), rfl⟩
theorem sm_peek_L {p6 : Int32 → Tp → Prop} {e6 : Tp → Prop} {p7 : Int32 → Md → Prop} {e7 : Md → Prop} : ∀ (n6 n7 : Nat) (t : Tp) (s : Md), RT t s → wp_X5_peek_L0 p6 e6 n6 t → wp_X7_nextByte_L0 p7 e7 n7 s → ∃ u v, e6 u ∧ e7 v ∧ RT u v ∧ FR t u s v ∧ ¬ tb7 v (v.1 6) = 32 ∧ (s.1 6).toInt ≤ (v.1 6).toInt ∧ (¬ tb7 s (s.1 6) = 32 → u = t ∧ v = s) := by
  intro n6
  induction n6 with
  | zero =>
    intro n7 t s _ h6
    exact (show False from h6).elim
  | succ n6 ih =>
    intro n7 t s hR h6 h7
    cases n7 with
    | zero => exact (show False from h7).elim
    | succ n7 =>
      unfold wp_X5_peek_L0 at h6
      unfold wp_X7_nextByte_L0 at h7
      have h7 := e7_byteAt h7
      have eb := tb_eq hR.1 (s.1 6)
      by_cases d : tb7 s (s.1 6) = 32
      · have lt : (s.1 6).toInt < (s.1 5).toInt := tb7_lt (by rw [d]; decide)
        have c : ¬ t.1 0 ≤ t.1 1 := fun c => by
          rw [hR.1.1, hR.2.1] at c
          have := q_le c
          omega
        have h6 := (h6.2 c).2.2 (by
          have e := eb.trans d
          unfold tb5 at e
          rw [← hR.2.1, if_neg c] at e
          exact e)
        have h7 := h7.2 d
        have e1 : (1 : Int32).toInt = 1 := rfl
        have b := hR.1.2.2
        have a := nw (tq_addr e1 (s.1 6)) (by have := hR.2.2; omega)
        obtain ⟨u, v, a1, a2, a3, a4, a5, a6, _⟩ := ih n7 _ _ (RT_step hR lt) h6 h7
        have a6 : (s.1 6 + 1).toInt ≤ (v.1 6).toInt := a6
        exact ⟨u, v, a1, a2, a3, FR_tr (FR_step t s _ _) a4, a5, by omega, fun g => absurd d g⟩
      · refine ⟨t, s, ?_, h7.1 d, hR, FR_rf t s, d, Int.le_refl _, fun _ => ⟨rfl, rfl⟩⟩
        by_cases c : t.1 0 ≤ t.1 1
        · exact h6.1 c
        · refine (h6.2 c).2.1 (fun g => d ?_)
          rw [← eb]
          unfold tb5
          rw [← hR.2.1, if_neg c]
          exact g
theorem sm_peek {P6 : Int32 → Tp → Prop} {P7 : Int32 → Md → Prop} {t : Tp} {s : Md} (hR : RT t s) (h6 : wp_X5_peek P6 t) (h7 : wp_X7_nextByte P7 s) : ∃ u v, P6 (tb7 v (v.1 6)) u ∧ P7 (tb7 v (v.1 6)) v ∧ RT u v ∧ FR t u s v ∧ ¬ tb7 v (v.1 6) = 32 ∧ (s.1 6).toInt ≤ (v.1 6).toInt ∧ (¬ tb7 s (s.1 6) = 32 → u = t ∧ v = s) := by
  unfold wp_X5_peek at h6
  unfold wp_X7_nextByte at h7
  obtain ⟨n6, h6⟩ := h6
  obtain ⟨n7, h7⟩ := h7
  obtain ⟨u, v, a1, a2, a3, a4, a5, a6, a7⟩ := sm_peek_L n6 n7 t s hR h6 h7
  refine ⟨u, v, ?_, e7_byteAt a2, a3, a4, a5, a6, a7⟩
  rw [← tb_eq a3.1 (v.1 6)]
  unfold tb5
  by_cases c : u.1 0 ≤ u.1 1
  · rw [← a3.2.1, if_pos c]
    exact a1.1 c
  · rw [← a3.2.1, if_neg c]
    exact (a1.2 c).2
theorem sm_takeByte {P6 : Tp → Prop} {P7 : Int32 → Md → Prop} {t : Tp} {s : Md} {x : Int32} (hx : ¬ x = -1) (hR : RT t s) (h6 : wp_X5_takeByte P6 t x) (h7 : wp_X7_mustByte P7 s x) : ∃ u r v, P6 u ∧ P7 r v ∧ FR t u s v ∧ ((r = 1 ∧ RT u v ∧ (s.1 6).toInt < (v.1 6).toInt) ∨ (r = 0 ∧ FL u v)) := by
  unfold wp_X5_takeByte at h6
  unfold wp_X7_mustByte wp_X7_takesByte at h7
  obtain ⟨u, v, a1, a2, a3, a4, a5, a6, _⟩ := sm_peek hR h6 h7
  by_cases c : tb7 v (v.1 6) = x
  · have lt : (v.1 6).toInt < (v.1 5).toInt := tb7_lt (by rw [c]; exact hx)
    have e1 : (1 : Int32).toInt = 1 := rfl
    have b := a3.1.2.2
    have bd := a3.2.2
    have s1 := nw (tq_addr e1 (v.1 6)) (by omega)
    refine ⟨_, _, _, a1.2 c, (a2.2 c).1 (by decide), FR_tr a4 (FR_step u v _ _), Or.inl ⟨rfl, RT_step a3 lt, ?_⟩⟩
    show (s.1 6).toInt < (v.1 6 + 1).toInt
    omega
  · have b := a3.1.2.2
    have d := a3.2.2
    obtain ⟨w, y, b1, b2, b3, b4⟩ := sm_fault a3.2.2.2.2 a3.2.1 (by omega) (by omega) (by decide) (by decide) (a1.1 c) ((a2.1 c).2 rfl)
    exact ⟨w, 0, y, b1, b2.1 rfl, FR_tr a4 b3, Or.inr ⟨rfl, b4⟩⟩
/-! A number. -/
def VR (z w : Int32) : Prop := (z = w ∧ 0 ≤ w.toInt ∧ w.toInt < 1000) ∨ (z.toInt = 1000 ∧ 1000 ≤ w.toInt ∧ w.toInt ≤ 200000)
theorem VR_on {z w r : Int32} (h : VR z w) (h1 : 48 ≤ r.toInt) (h2 : r.toInt ≤ 57) : (10000 ≤ w → VR (if (((z * 10) + r) - 48) < (1000 : Int32) then (((z * 10) + r) - 48) else (1000 : Int32)) w) ∧ (¬ 10000 ≤ w → VR (if (((z * 10) + r) - 48) < (1000 : Int32) then (((z * 10) + r) - 48) else (1000 : Int32)) (((10 * w) + r) - 48)) := by
  have e10 : (10 : Int32).toInt = 10 := rfl
  have e48 : (48 : Int32).toInt = 48 := rfl
  have eK : (1000 : Int32).toInt = 1000 := rfl
  have eX : (10000 : Int32).toInt = 10000 := rfl
  have z1 : 0 ≤ z.toInt ∧ z.toInt ≤ 1000 := by
    rcases h with ⟨rfl, a, b⟩ | a <;> omega
  have a1 := nw (tq_mulr e10 z) (by omega)
  have a2 := nw (tq_add (z * 10) r) (by omega)
  have a3 := nw (tq_subr e48 ((z * 10) + r)) (by omega)
  refine ⟨fun c => ?_, fun c => ?_⟩
  · have c1 := q_le c
    rcases h with ⟨rfl, a, b⟩ | ⟨a, b, d⟩
    · exfalso
      omega
    · have n : ¬ (((z * 10) + r) - 48) < (1000 : Int32) := fun g => by
        have := q_lt g
        omega
      rw [if_neg n]
      exact Or.inr ⟨rfl, b, d⟩
  · have c1 := q_nle c
    have w1 : 0 ≤ w.toInt := by
      rcases h with ⟨rfl, a, b⟩ | a <;> omega
    have b1 := nw (tq_mulc e10 w) (by omega)
    have b2 := nw (tq_add (10 * w) r) (by omega)
    have b3 := nw (tq_subr e48 ((10 * w) + r)) (by omega)
    by_cases g : (((z * 10) + r) - 48) < (1000 : Int32)
    · have g1 := q_lt g
      rw [if_pos g]
      rcases h with ⟨rfl, a, b⟩ | ⟨a, b, d⟩
      · exact Or.inl ⟨Int32.toInt_inj.mp (by omega), by omega, by omega⟩
      · exfalso
        omega
    · have g1 := q_nlt g
      rw [if_neg g]
      refine Or.inr ⟨rfl, ?_, by omega⟩
      rcases h with ⟨rfl, a, b⟩ | ⟨a, b, d⟩ <;> omega
theorem sm_num_L {p6 : Int32 → Tp → Prop} {e6 : Tp → Int32 → Int32 → Int32 → Prop} {p7 : Int32 → Md → Prop} {e7 : Md → Int32 → Int32 → Prop} {lo hi : Int32} : ∀ (n6 n7 : Nat) (t : Tp) (s : Md) (z : Int32), RT t s → VR z (s.1 8) → wp_X5_takeNumber_L15 p6 e6 n6 t lo hi z → wp_X7_readsNumber_L40 p7 e7 n7 s lo hi → ∃ u v z', e6 u lo hi z' ∧ e7 v lo hi ∧ RT u v ∧ FR t u s v ∧ VR z' (v.1 8) ∧ u.1 2 = t.1 2 ∧ v.1 9 = s.1 9 ∧ (s.1 6).toInt ≤ (v.1 6).toInt ∧ (48 ≤ (tb7 s (s.1 6)).toInt ∧ (tb7 s (s.1 6)).toInt ≤ 57 → (s.1 6).toInt < (v.1 6).toInt) := by
  have e48 : (48 : Int32).toInt = 48 := rfl
  have e57 : (57 : Int32).toInt = 57 := rfl
  intro n6
  induction n6 with
  | zero =>
    intro n7 t s z _ _ h6
    exact (show False from h6).elim
  | succ n6 ih =>
    intro n7 t s z hR hV h6 h7
    cases n7 with
    | zero => exact (show False from h7).elim
    | succ n7 =>
      unfold wp_X5_takeNumber_L15 at h6
      unfold wp_X7_readsNumber_L40 at h7
      have h7 := e7_inC (i := 48) (j := 57) rfl rfl (e7_byteAt h7)
      have eb := tb_eq hR.1 (s.1 6)
      have bb := hR.1.2.2
      have bc := hR.2.2
      have p0 : 0 ≤ (t.1 1).toInt := by rw [hR.2.1]; omega
      have e61 : t.1 1 = s.1 6 := hR.2.1
      rcases h7 with ⟨h7, d1, d2⟩ | ⟨h7, d⟩
      · have lt : (s.1 6).toInt < (s.1 5).toInt := tb7_lt (fun g => by rw [g] at d1; exact absurd d1 (by decide))
        have c : ¬ t.1 0 ≤ t.1 1 := fun c => by
          rw [hR.1.1, e61] at c
          have := q_le c
          omega
        have eb2 : tb5 t (t.1 1) = tb7 s (s.1 6) := by rw [e61]; exact eb
        have k1 := e5_byteAt p0 (h6.2 c)
        rw [eb2] at k1
        have k2 := e5_byteAt p0 (k1.2 (fun g => by have := q_lt g; omega))
        rw [eb2] at k2
        have k3 := e5_byteAt p0 (k2.2 (fun g => by have := q_lt g; omega))
        rw [eb2] at k3
        have h7 := h7.2 (by decide)
        have e1 : (1 : Int32).toInt = 1 := rfl
        have a := nw (tq_addr e1 (s.1 6)) (by omega)
        have vo := VR_on hV d1 d2
        by_cases g : 10000 ≤ s.1 8
        · obtain ⟨u, v, z', a1, a2, a3, a4, a5, a6, a7, a8, _⟩ := ih n7 _ _ _ (RT_step hR lt) (show VR _ (s.1 8) from vo.1 g) k3 (h7.1 g)
          have a8 : (s.1 6 + 1).toInt ≤ (v.1 6).toInt := a8
          exact ⟨u, v, z', a1, a2, a3, FR_tr (FR_step t s _ _) a4, a5, a6, a7, by omega, fun _ => by omega⟩
        · have h7 := e7_byteAt (h7.2 g)
          obtain ⟨u, v, z', a1, a2, a3, a4, a5, a6, a7, a8, _⟩ := ih n7 _ _ _ (show RT _ ((va_up (va_up s.1 6 ((s.1 6) + 1)) 8 (((10 * (s.1 8)) + tb7 s (s.1 6)) - 48)), s.2.1, s.2.2.1, s.2.2.2) from RT_step hR lt) (show VR _ (((10 * (s.1 8)) + tb7 s (s.1 6)) - 48) from vo.2 g) k3 h7
          have a8 : (s.1 6 + 1).toInt ≤ (v.1 6).toInt := a8
          exact ⟨u, v, z', a1, a2, a3, FR_rt a4 ⟨ie_up (ie_refl _ _) (by decide), rfl, ie_up (ie_up (ie_refl _ _) (by decide)) (by decide), rfl⟩, a5, a6, a7, by omega, fun _ => by omega⟩
      · refine ⟨t, s, z, ?_, h7.1 rfl, hR, FR_rf t s, hV, rfl, rfl, Int.le_refl _, fun g => by omega⟩
        by_cases c : t.1 0 ≤ t.1 1
        · exact h6.1 c
        · have eb2 : tb5 t (t.1 1) = tb7 s (s.1 6) := by rw [e61]; exact eb
          have k1 := e5_byteAt p0 (h6.2 c)
          rw [eb2] at k1
          by_cases f : tb7 s (s.1 6) < 48
          · exact k1.1 f
          · have k2 := e5_byteAt p0 (k1.2 f)
            rw [eb2] at k2
            have f1 := q_nlt f
            exact k2.1 (Int32.lt_iff_toInt_lt.mpr (by omega))
theorem sm_number {P6 : Int32 → Tp → Prop} {P7 : Int32 → Md → Prop} {t : Tp} {s : Md} {lo hi : Int32} (hR : RT t s) (hlo : 0 ≤ lo.toInt) (hhi : hi.toInt < 1000) (h6 : wp_X5_takeNumber P6 t lo hi) (h7 : wp_X7_readsNumber P7 s lo hi) : ∃ r u r7 v, P6 r u ∧ P7 r7 v ∧ FR t u s v ∧ ((r7 = 1 ∧ RT u v ∧ r = v.1 8 ∧ lo.toInt ≤ r.toInt ∧ r.toInt ≤ hi.toInt ∧ u.1 2 = v.1 9 ∧ 0 ≤ (v.1 9).toInt ∧ (v.1 9).toInt ≤ 400 ∧ (s.1 6).toInt < (v.1 6).toInt) ∨ (r7 = 0 ∧ FL u v)) := by
  have e48 : (48 : Int32).toInt = 48 := rfl
  have e57 : (57 : Int32).toInt = 57 := rfl
  unfold wp_X5_takeNumber at h6
  unfold wp_X7_readsNumber at h7
  obtain ⟨u, v, a1, a2, a3, a4, a5, a6, _⟩ := sm_peek hR h6 h7
  obtain ⟨n6, h6⟩ := a1
  have h7 := e7_inC (i := 48) (j := 57) rfl rfl a2
  have bb := a3.1.2.2
  have bc := a3.2.2
  rcases h7 with ⟨h7, d1, d2⟩ | ⟨h7, d⟩
  · obtain ⟨n7, h7⟩ := h7.1 (by decide)
    obtain ⟨u2, v2, z2, b1, b2, b3, b4, b5, b6, b7, b8, b9⟩ := sm_num_L n6 n7 _ _ 0 (show RT ((va_up u.1 2 (u.1 1)), u.2) ((va_up (va_up v.1 8 0) 9 (v.1 6)), v.2.1, v.2.2.1, v.2.2.2) from a3) (show VR 0 (0 : Int32) from Or.inl ⟨rfl, by decide, by decide⟩) h6 h7
    have b9 : (v.1 6).toInt < (v2.1 6).toInt := b9 ⟨d1, d2⟩
    have b6 : u2.1 2 = u.1 1 := b6
    have b7 : v2.1 9 = v.1 6 := b7
    have fr : FR t u2 s v2 := FR_tr a4 (FR_rt b4 ⟨ie_up (ie_refl _ _) (by decide), rfl, ie_up (ie_up (ie_refl _ _) (by decide)) (by decide), rfl⟩)
    have e26 : u2.1 2 = v2.1 9 := b6.trans (a3.2.1.trans b7.symm)
    have ne : ¬ u2.1 1 = u2.1 2 := fun g => by
      have g2 := q_eq ((b3.2.1.symm.trans g).trans (b6.trans a3.2.1))
      omega
    have b1 := b1.1 ne
    have n9 : 0 ≤ (v2.1 9).toInt ∧ (v2.1 9).toInt ≤ 400 := by rw [b7]; omega
    have b2 := e7_in32 b2
    rcases b2 with ⟨b2, f1, f2⟩ | ⟨b2, f⟩
    · have ez : z2 = v2.1 8 := by
        rcases b5 with g | g
        · exact g.1
        · exfalso
          omega
      have k := (b1.2 (fun g => by
        have := q_lt g
        rw [ez] at this
        omega)).1 (by
        rw [ez]
        exact Int32.le_iff_toInt_le.mpr f2)
      exact ⟨z2, u2, 1, v2, k, b2.1 (by decide), fr, Or.inl ⟨rfl, b3, ez, by rw [ez]; exact f1, by rw [ez]; exact f2, e26, n9.1, n9.2, by omega⟩⟩
    · have out : z2.toInt < lo.toInt ∨ hi.toInt < z2.toInt := by
        rcases b5 with g | g
        · rw [g.1]
          exact f
        · omega
      have k : wp_X5_blame (fun w => P6 lo w) u2 (u2.1 2) 2 := by
        by_cases c : z2 < lo
        · exact b1.1 c
        · have c1 := q_nlt c
          exact (b1.2 c).2 (fun g => by
            have := q_le g
            omega)
      obtain ⟨w, y, c1, c2, c3, c4⟩ := sm_fault b3.2.2.2.2 e26 n9.1 n9.2 (by decide) (by decide) k (b2.2 rfl)
      exact ⟨lo, w, 0, y, c1, c2.1 rfl, FR_tr fr c3, Or.inr ⟨rfl, c4⟩⟩
  · have h7 := h7.2 rfl
    cases n6 with
    | zero => exact (show False from h6).elim
    | succ n6 =>
      obtain ⟨w0, hw0⟩ : ∃ w : Tp, w = ((va_up u.1 2 (u.1 1)), u.2) := ⟨_, rfl⟩
      rw [← hw0] at h6
      unfold wp_X5_takeNumber_L15 at h6
      have r0 : RT w0 v := by rw [hw0]; exact a3
      have e2 : w0.1 1 = w0.1 2 := by rw [hw0]; rfl
      have fr : FR t w0 s v := FR_tr a4 ⟨by rw [hw0]; exact ie_up (ie_refl _ _) (by decide), by rw [hw0], fun _ _ => rfl, rfl⟩
      have e61 : w0.1 1 = v.1 6 := r0.2.1
      have eb : tb5 w0 (w0.1 1) = tb7 v (v.1 6) := by rw [e61]; exact tb_eq r0.1 _
      have p0 : 0 ≤ (w0.1 1).toInt := by rw [e61]; omega
      have k : wp_X5_blame (fun w => P6 lo w) w0 (w0.1 1) 1 := by
        by_cases c : w0.1 0 ≤ w0.1 1
        · exact (h6.1 c).2 e2
        · have k1 := e5_byteAt p0 (h6.2 c)
          rw [eb] at k1
          by_cases f : tb7 v (v.1 6) < 48
          · exact (k1.1 f).2 e2
          · have k2 := e5_byteAt p0 (k1.2 f)
            rw [eb] at k2
            have f1 := q_nlt f
            exact (k2.1 (Int32.lt_iff_toInt_lt.mpr (by omega))).2 e2
      obtain ⟨w, y, c1, c2, c3, c4⟩ := sm_fault r0.2.2.2.2 e61 (by omega) (by omega) (by decide) (by decide) k h7
      exact ⟨lo, w, 0, y, c1, c2.2, FR_tr fr c3, Or.inr ⟨rfl, c4⟩⟩

/-! Signs between two marks. -/
theorem e6_isSign {P : Int32 → Prop} {x : Int32} (h : wp_X6_isSign P x) : (P 1 ∧ 32 ≤ x.toInt ∧ x.toInt ≤ 126 ∧ ¬ x = 39) ∨ (P 0 ∧ (x.toInt < 32 ∨ 126 < x.toInt ∨ x = 39)) := by
  have e32 : (32 : Int32).toInt = 32 := rfl
  have e126 : (126 : Int32).toInt = 126 := rfl
  unfold wp_X6_isSign at h
  by_cases c : x < 32
  · have := q_lt c
    exact Or.inr ⟨h.1 c, Or.inl (by omega)⟩
  · have c1 := q_nlt c
    have h := h.2 c
    by_cases d : 126 < x
    · have := q_lt d
      exact Or.inr ⟨h.1 d, Or.inr (Or.inl (by omega))⟩
    · have d1 := q_nlt d
      have h := h.2 d
      by_cases e : x = 39
      · exact Or.inr ⟨h.1 e, Or.inr (Or.inr e)⟩
      · exact Or.inl ⟨h.2 e, by omega, by omega, e⟩
theorem e7_isSign {P : Int32 → Prop} {x : Int32} (h : wp_X7_isSign P x) : (P 1 ∧ 32 ≤ x.toInt ∧ x.toInt ≤ 126 ∧ ¬ x = 39) ∨ (P 0 ∧ (x.toInt < 32 ∨ 126 < x.toInt ∨ x = 39)) := by
  unfold wp_X7_isSign at h
  rcases e7_inC (i := 32) (j := 126) rfl rfl h with ⟨h, d1, d2⟩ | ⟨h, d⟩
  · have h := h.2 (by decide)
    by_cases e : x = 39
    · exact Or.inr ⟨h.1 e, Or.inr (Or.inr e)⟩
    · exact Or.inl ⟨h.2 e, d1, d2, e⟩
  · refine Or.inr ⟨h.1 rfl, ?_⟩
    rcases d with d | d
    · exact Or.inl d
    · exact Or.inr (Or.inl d)
theorem e5_isSound {P : Int32 → Prop} {t : Tp} (h : wp_X5_isSound P t) : (t.1 5 = 0 → P 1) ∧ (¬ t.1 5 = 0 → P 0) := by
  unfold wp_X5_isSound at h
  exact ⟨h.2, h.1⟩
theorem e5_blame {P : Tp → Prop} {t : Tp} {x k : Int32} (hf : ¬ t.1 5 = 0) (h : wp_X5_blame P t x k) : P t := by
  unfold wp_X5_blame at h
  exact h.1 hf
/-- signs from one place on, so many -/
def SG (s : Md) (q n : Int32) : Prop := ∀ k : Nat, (k : Int) < n.toInt → 32 ≤ (tb7 s (q + nI k)).toInt ∧ (tb7 s (q + nI k)).toInt ≤ 126 ∧ ¬ tb7 s (q + nI k) = 39
theorem SG_on {s : Md} {q n : Int32} (h : SG s q n) (h0 : 0 ≤ n.toInt) (h1 : n.toInt < 1000) (hs : 32 ≤ (tb7 s (q + n)).toInt ∧ (tb7 s (q + n)).toInt ≤ 126 ∧ ¬ tb7 s (q + n) = 39) : SG s q (n + 1) := by
  have e1 : (1 : Int32).toInt = 1 := rfl
  have a := nw (tq_addr e1 n) (by omega)
  intro k hk
  by_cases c : (k : Int) < n.toInt
  · exact h k c
  · have e : nI k = n := Int32.toInt_inj.mp (by rw [nI_toInt (by omega)]; omega)
    rw [e]
    exact hs
def QR (t : Tp) (s : Md) : Prop := t.1 3 = s.1 10 ∧ s.1 6 = s.1 10 + s.1 11 ∧ 0 ≤ (s.1 10).toInt ∧ 0 ≤ (s.1 11).toInt ∧ (s.1 10).toInt + (s.1 11).toInt = (s.1 6).toInt ∧ SG s (s.1 10) (s.1 11)
theorem sub_add32 (a b : Int32) : a + b - a = b := Int32.toInt_inj.mp (by
  rw [tq_sub, tq_add]
  have := tq_r a
  have := tq_r b
  omega)
theorem sm_quo_L {p6 : Tp → Prop} {e6 : Tp → Int32 → Int32 → Prop} {p7 : Int32 → Md → Prop} {e7 : Md → Int32 → Int32 → Prop} {lo hi : Int32} (hhi : 0 ≤ hi.toInt) (hh2 : hi.toInt < 1000) : ∀ (n6 n7 : Nat) (t : Tp) (s : Md), RT t s → QR t s → (s.1 11).toInt ≤ hi.toInt → wp_X5_takeQuoted_L14 p6 e6 n6 t lo hi → wp_X7_readsQuoted_L24 p7 e7 n7 s lo hi → ∃ u v, e6 u lo hi ∧ FR t u s v ∧ ((e7 v lo hi ∧ RT u v ∧ QR u v ∧ tb7 v (v.1 6) = 39 ∧ (v.1 11).toInt ≤ hi.toInt ∧ v.1 10 = s.1 10) ∨ (p7 0 v ∧ (FL u v ∨ (u.1 5 = 0 ∧ ¬ u.1 1 < u.1 0 ∧ v.1 7 = 8 * (u.1 0) + 1)))) := by
  intro n6
  induction n6 with
  | zero =>
    intro n7 t s _ _ _ h6
    exact (show False from h6).elim
  | succ n6 ih =>
    intro n7 t s hR hQ hm h6 h7
    cases n7 with
    | zero => exact (show False from h7).elim
    | succ n7 =>
      unfold wp_X5_takeQuoted_L14 at h6
      unfold wp_X7_readsQuoted_L24 at h7
      have h7 := e7_byteAt h7
      have bb := hR.1.2.2
      have bc := hR.2.2
      have e61 : t.1 1 = s.1 6 := hR.2.1
      have eb : tb5 t (t.1 1) = tb7 s (s.1 6) := by rw [e61]; exact tb_eq hR.1 _
      have p0 : 0 ≤ (t.1 1).toInt := by rw [e61]; omega
      by_cases d : tb7 s (s.1 6) = 39
      · refine ⟨t, s, ?_, FR_rf t s, Or.inl ⟨h7.1 d, hR, hQ, d, hm, rfl⟩⟩
        by_cases c : t.1 0 ≤ t.1 1
        · exact h6.1 c
        · have k1 := (e5_isSound (h6.2 c)).1 hR.2.2.2.2
          have k2 := e5_byteAt p0 (k1.2 (by decide))
          rw [eb] at k2
          exact k2.1 d
      · have h7 := e7_byteAt (h7.2 d)
        by_cases c : t.1 0 ≤ t.1 1
        · have c1 := c
          rw [hR.1.1, e61] at c1
          have f : tb7 s (s.1 6) = -1 := by
            rcases tb7_r s (s.1 6) with g | g
            · exact g.2
            · exact absurd c1 g.1
          have c2 := q_le c1
          rcases e7_isSign h7 with ⟨h7, g, _⟩ | ⟨h7, _⟩
          · rw [f] at g
            exact absurd g (by decide)
          · have h7 := h7.2 rfl
            unfold wp_X7_fails at h7
            refine ⟨t, ((va_up s.1 7 ((8 * (s.1 6)) + 1)), s.2.1, s.2.2.1, s.2.2.2), h6.1 c, ⟨ie_refl _ _, rfl, ie_up (ie_refl _ _) (by decide), rfl⟩, Or.inr ⟨h7.2, Or.inr ⟨hR.2.2.2.2, fun g => ?_, ?_⟩⟩⟩
            · have := q_lt g
              have := q_le c
              omega
            · show 8 * s.1 6 + 1 = 8 * t.1 0 + 1
              have : s.1 6 = t.1 0 := Int32.toInt_inj.mp (by rw [hR.1.1]; omega)
              rw [this]
        · have lt : (s.1 6).toInt < (s.1 5).toInt := by
            have := q_nle c
            rw [hR.1.1, e61] at this
            omega
          have k1 := (e5_isSound (h6.2 c)).1 hR.2.2.2.2
          have k2 := e5_byteAt p0 (k1.2 (by decide))
          rw [eb] at k2
          have k3 := e5_byteAt p0 (k2.2 d)
          rw [eb] at k3
          have e1 : (1 : Int32).toInt = 1 := rfl
          have a := nw (tq_addr e1 (s.1 6)) (by omega)
          obtain ⟨q1, q2, q3, q4, q5, q6⟩ := hQ
          have es : t.1 1 - t.1 3 = s.1 11 := by
            rw [e61, q1, q2]
            exact sub_add32 _ _
          have fault : ∀ kk : Int32, 1 ≤ kk.toInt → kk.toInt ≤ 4 → ∀ P7 : Int32 → Md → Prop, wp_X5_blame (fun u_17 => wp_X5_takeQuoted_L14 p6 e6 n6 ((va_up u_17.1 1 ((u_17.1 1) + 1)), u_17.2) lo hi) t (t.1 1) kk → wp_X7_fails P7 s kk (s.1 6) → ∃ u v, e6 u lo hi ∧ FR t u s v ∧ P7 0 v ∧ FL u v := by
            intro kk g1 g2 P7 b6 b7
            obtain ⟨w, y, c1, c2, c3, c4⟩ := sm_fault hR.2.2.2.2 e61 (by omega) (by omega) g1 g2 b6 b7
            cases n6 with
            | zero => exact (show False from c1).elim
            | succ n6 =>
              obtain ⟨w0, hw0⟩ : ∃ x : Tp, x = ((va_up w.1 1 ((w.1 1) + 1)), w.2) := ⟨_, rfl⟩
              rw [← hw0] at c1
              have f5 : w0.1 5 = w.1 5 := by rw [hw0]; rfl
              have fr : FR w w0 y y := ⟨by rw [hw0]; exact ie_up (ie_refl _ _) (by decide), by rw [hw0], fun _ _ => rfl, rfl⟩
              unfold wp_X5_takeQuoted_L14 at c1
              refine ⟨w0, y, ?_, FR_tr c3 fr, c2, ⟨f5.trans c4.1, fun g => c4.2 (f5.symm.trans g)⟩⟩
              by_cases g : w0.1 0 ≤ w0.1 1
              · exact c1.1 g
              · have := (e5_isSound (c1.2 g)).2 (fun g => c4.2 (f5.symm.trans g))
                exact this.1 rfl
          rcases e6_isSign k3 with ⟨k4, g1, g2, g3⟩ | ⟨k4, g⟩
          · have k5 := k4.1 (by decide)
            rcases e7_isSign h7 with ⟨h8, _⟩ | ⟨_, g⟩
            · have h9 := h8.1 (by decide)
              by_cases f : s.1 11 = hi
              · have nf : ¬ (t.1 1 - t.1 3) < hi := fun g => by
                  have := q_lt g
                  rw [es, f] at this
                  omega
                obtain ⟨u, v, a1, a2, a3, a4⟩ := fault 2 (by decide) (by decide) _ (k5.2 nf) (h9.2 f)
                exact ⟨u, v, a1, a2, Or.inr ⟨a3.2, Or.inl a4⟩⟩
              · have f1 : ¬ (s.1 11).toInt = hi.toInt := fun g => f (Int32.toInt_inj.mp g)
                have lt2 : (t.1 1 - t.1 3) < hi := by
                  rw [es]
                  exact Int32.lt_iff_toInt_lt.mpr (by omega)
                have b := nw (tq_addr e1 (s.1 11)) (by omega)
                have nq : QR ((va_up t.1 1 ((t.1 1) + 1)), t.2) ((va_up (va_up s.1 6 ((s.1 6) + 1)) 11 ((s.1 11) + 1)), s.2.1, s.2.2.1, s.2.2.2) := by
                  refine ⟨q1, ?_, q3, ?_, ?_, ?_⟩
                  · show s.1 6 + 1 = s.1 10 + (s.1 11 + 1)
                    rw [q2, Int32.add_assoc]
                  · show 0 ≤ (s.1 11 + 1).toInt
                    omega
                  · show (s.1 10).toInt + (s.1 11 + 1).toInt = (s.1 6 + 1).toInt
                    omega
                  · show SG s (s.1 10) (s.1 11 + 1)
                    exact SG_on (s := s) q6 q4 (by omega) (by rw [← q2]; exact ⟨g1, g2, g3⟩)
                obtain ⟨u, v, a1, a2, a3⟩ := ih n7 _ _ (show RT ((va_up t.1 1 ((t.1 1) + 1)), t.2) ((va_up (va_up s.1 6 ((s.1 6) + 1)) 11 ((s.1 11) + 1)), s.2.1, s.2.2.1, s.2.2.2) from RT_step hR lt) nq (show (s.1 11 + 1).toInt ≤ hi.toInt by omega) (k5.1 lt2) (h9.1 f)
                exact ⟨u, v, a1, FR_rt a2 ⟨ie_up (ie_refl _ _) (by decide), rfl, ie_up (ie_up (ie_refl _ _) (by decide)) (by decide), rfl⟩, a3⟩
            · exfalso
              rcases g with g | g | g
              · omega
              · omega
              · exact g3 g
          · rcases e7_isSign h7 with ⟨_, g1, g2, g3⟩ | ⟨h8, _⟩
            · exfalso
              rcases g with g | g | g
              · omega
              · omega
              · exact g3 g
            · obtain ⟨u, v, a1, a2, a3, a4⟩ := fault 1 (by decide) (by decide) _ (k4.2 rfl) (h8.2 rfl)
              exact ⟨u, v, a1, a2, Or.inr ⟨a3.2, Or.inl a4⟩⟩
theorem sm_quoted {P6 : Tp → Prop} {P7 : Int32 → Md → Prop} {t : Tp} {s : Md} {lo hi : Int32} (hR : RT t s) (hlo : 0 ≤ lo.toInt) (hhi : 0 ≤ hi.toInt) (hh2 : hi.toInt < 1000) (h6 : wp_X5_takeQuoted P6 t lo hi) (h7 : wp_X7_readsQuoted P7 s lo hi) : ∃ u r v, P6 u ∧ P7 r v ∧ FR t u s v ∧ ((r = 1 ∧ RT u v ∧ u.1 3 = v.1 10 ∧ u.1 4 = v.1 11 ∧ lo.toInt ≤ (v.1 11).toInt ∧ (v.1 11).toInt ≤ hi.toInt ∧ 0 ≤ (v.1 10).toInt ∧ ((v.1 10).toInt + (v.1 11).toInt ≤ (v.1 5).toInt ∧ (s.1 6).toInt < (v.1 6).toInt) ∧ SG v (v.1 10) (v.1 11)) ∨ (r = 0 ∧ FL u v)) := by
  unfold wp_X5_takeQuoted at h6
  unfold wp_X7_readsQuoted at h7
  obtain ⟨u, r, v, a1, a2, a3, a4⟩ := sm_takeByte (by decide) hR h6 h7
  obtain ⟨n6, h6⟩ := a1
  rcases a4 with ⟨rfl, a4, ap⟩ | ⟨rfl, a4⟩
  · obtain ⟨n7, h7⟩ := a2.1 (by decide)
    have bb := a4.1.2.2
    have bc := a4.2.2
    have z0 : (0 : Int32).toInt = 0 := rfl
    have nq : QR ((va_up u.1 3 (u.1 1)), u.2) ((va_up (va_up v.1 10 (v.1 6)) 11 0), v.2.1, v.2.2.1, v.2.2.2) := by
      refine ⟨a4.2.1, ?_, bc.1, Int.le_refl _, ?_, fun k hk => ?_⟩
      · show v.1 6 = v.1 6 + 0
        rw [Int32.add_zero]
      · show (v.1 6).toInt + (0 : Int32).toInt = (v.1 6).toInt
        omega
      · have hk : (k : Int) < (0 : Int32).toInt := hk
        omega
    obtain ⟨w, x, b1, b2, b3⟩ := sm_quo_L hhi hh2 n6 n7 _ _ (show RT ((va_up u.1 3 (u.1 1)), u.2) ((va_up (va_up v.1 10 (v.1 6)) 11 0), v.2.1, v.2.2.1, v.2.2.2) from a4) nq (show (0 : Int32).toInt ≤ hi.toInt by omega) h6 h7
    have fr : FR t w s x := FR_tr a3 (FR_rt b2 ⟨ie_up (ie_refl _ _) (by decide), rfl, ie_up (ie_up (ie_refl _ _) (by decide)) (by decide), rfl⟩)
    rcases b3 with ⟨h7, b4, b5, b6, b7, b10⟩ | ⟨h7, b4 | ⟨b4, b5, b6⟩⟩
    · have lt : (x.1 6).toInt < (x.1 5).toInt := tb7_lt (by rw [b6]; decide)
      obtain ⟨q1, q2, q3, q4, q5, q6⟩ := b5
      have lt6 : w.1 1 < w.1 0 := by
        rw [b4.2.1, b4.1.1]
        exact Int32.lt_iff_toInt_lt.mpr lt
      have es : w.1 1 - w.1 3 = x.1 11 := by
        rw [b4.2.1, q1, q2]
        exact sub_add32 _ _
      have k := b1.1 lt6
      rw [es] at k
      have bb2 := b4.1.2.2
      have bc2 := b4.2.2
      by_cases c : lo ≤ x.1 11
      · have c1 := q_le c
        have rt := RT_step b4 lt
        refine ⟨_, 1, _, k.1 c, h7.1 c, FR_tr fr ⟨ie_up (ie_up (ie_refl _ _) (by decide)) (by decide), rfl, ie_up (ie_refl _ _) (by decide), rfl⟩, Or.inl ⟨rfl, rt, q1, rfl, c1, b7, q3, ?_, q6⟩⟩
        have b10 : x.1 10 = v.1 6 := b10
        have e1 : (1 : Int32).toInt = 1 := rfl
        have s1 := nw (tq_addr e1 (x.1 6)) (by omega)
        rw [b10] at q5
        refine ⟨?_, ?_⟩
        · show (x.1 10).toInt + (x.1 11).toInt ≤ (x.1 5).toInt
          rw [b10]
          omega
        · show (s.1 6).toInt < (x.1 6 + 1).toInt
          omega
      · obtain ⟨w2, y, c1, c2, c3, c4⟩ := sm_fault (show ((va_up w.1 4 (x.1 11)), w.2).1 5 = 0 from b4.2.2.2.2) b4.2.1 (by omega) (by omega) (by decide) (by decide) (k.2 c) (h7.2 c)
        exact ⟨_, 0, y, c1, c2.2, FR_tr (FR_tr fr (FR_rt c3 ⟨ie_up (ie_refl _ _) (by decide), rfl, fun _ _ => rfl, rfl⟩)) ⟨ie_up (ie_refl _ _) (by decide), rfl, fun _ _ => rfl, rfl⟩, Or.inr ⟨rfl, c4⟩⟩
    · have fin : ∀ w3 : Tp, P6 w3 → FR w w3 x x → w3.1 5 = w.1 5 → ∃ u r v, P6 u ∧ P7 r v ∧ FR t u s v ∧ ((r = 1 ∧ RT u v ∧ u.1 3 = v.1 10 ∧ u.1 4 = v.1 11 ∧ lo.toInt ≤ (v.1 11).toInt ∧ (v.1 11).toInt ≤ hi.toInt ∧ 0 ≤ (v.1 10).toInt ∧ ((v.1 10).toInt + (v.1 11).toInt ≤ (v.1 5).toInt ∧ (s.1 6).toInt < (v.1 6).toInt) ∧ SG v (v.1 10) (v.1 11)) ∨ (r = 0 ∧ FL u v)) := fun w3 g3 g1 g2 => ⟨w3, 0, x, g3, h7, FR_tr fr g1, Or.inr ⟨rfl, g2.trans b4.1, fun g => b4.2 (g2.symm.trans g)⟩⟩
      by_cases c : w.1 1 < w.1 0
      · have k := b1.1 c
        by_cases d : lo ≤ (w.1 1) - (w.1 3)
        · exact fin _ (k.1 d) ⟨ie_up (ie_up (ie_refl _ _) (by decide)) (by decide), rfl, fun _ _ => rfl, rfl⟩ rfl
        · have kb := e5_blame (t := ((va_up w.1 4 ((w.1 1) - (w.1 3))), w.2)) b4.2 (k.2 d)
          exact fin _ kb ⟨ie_up (ie_up (ie_refl _ _) (by decide)) (by decide), rfl, fun _ _ => rfl, rfl⟩ rfl
      · have kb := e5_blame (t := ((va_up w.1 4 ((w.1 1) - (w.1 3))), w.2)) b4.2 (b1.2 c)
        exact fin _ kb ⟨ie_up (ie_up (ie_refl _ _) (by decide)) (by decide), rfl, fun _ _ => rfl, rfl⟩ rfl
    · have k := b1.2 b5
      unfold wp_X5_blame at k
      have k := k.2 b4
      have rx := RX_fr hR.1 fr
      refine ⟨_, 0, x, k, h7, FR_tr fr ⟨ie_up (ie_up (ie_up (ie_refl _ _) (by decide)) (by decide)) (by decide), rfl, fun _ _ => rfl, rfl⟩, Or.inr ⟨rfl, b6.symm, ?_⟩⟩
      show ¬ 8 * (w.1 0) + 1 = 0
      refine fl_ne ?_ ?_ (by decide) (by decide)
      · rw [rx.1]
        exact rx.2.2.1
      · rw [rx.1]
        exact rx.2.2.2.1
  · have h7 := a2.2 rfl
    cases n6 with
    | zero => exact (show False from h6).elim
    | succ n6 =>
      obtain ⟨w, hw⟩ : ∃ x : Tp, x = ((va_up u.1 3 (u.1 1)), u.2) := ⟨_, rfl⟩
      rw [← hw] at h6
      have f5 : w.1 5 = u.1 5 := by rw [hw]; rfl
      have nf : ¬ w.1 5 = 0 := fun g => a4.2 (f5.symm.trans g)
      have fr : FR t w s v := FR_tr a3 ⟨by rw [hw]; exact ie_up (ie_refl _ _) (by decide), by rw [hw], fun _ _ => rfl, rfl⟩
      unfold wp_X5_takeQuoted_L14 at h6
      have b1 : ((w.1 1) < (w.1 0) → ((lo ≤ ((w.1 1) - (w.1 3)) → P6 ((va_up (va_up w.1 1 ((w.1 1) + 1)) 4 ((w.1 1) - (w.1 3))), w.2)) ∧ (¬ lo ≤ ((w.1 1) - (w.1 3)) → wp_X5_blame (fun u_23 => P6 ((va_up u_23.1 1 ((u_23.1 1) + 1)), u_23.2)) ((va_up w.1 4 ((w.1 1) - (w.1 3))), w.2) (w.1 1) (2 : Int32)))) ∧ (¬ (w.1 1) < (w.1 0) → wp_X5_blame (fun u_25 => P6 ((va_up u_25.1 1 ((u_25.1 1) + 1)), u_25.2)) ((va_up w.1 4 ((w.1 1) - (w.1 3))), w.2) (w.1 0) (1 : Int32)) := by
        by_cases g : w.1 0 ≤ w.1 1
        · exact h6.1 g
        · exact ((e5_isSound (h6.2 g)).2 nf).1 rfl
      have fin : ∀ w3 : Tp, P6 w3 → FR w w3 v v → w3.1 5 = w.1 5 → ∃ u r v, P6 u ∧ P7 r v ∧ FR t u s v ∧ ((r = 1 ∧ RT u v ∧ u.1 3 = v.1 10 ∧ u.1 4 = v.1 11 ∧ lo.toInt ≤ (v.1 11).toInt ∧ (v.1 11).toInt ≤ hi.toInt ∧ 0 ≤ (v.1 10).toInt ∧ ((v.1 10).toInt + (v.1 11).toInt ≤ (v.1 5).toInt ∧ (s.1 6).toInt < (v.1 6).toInt) ∧ SG v (v.1 10) (v.1 11)) ∨ (r = 0 ∧ FL u v)) := fun w3 g3 g1 g2 => ⟨w3, 0, v, g3, h7, FR_tr fr g1, Or.inr ⟨rfl, (g2.trans f5).trans a4.1, fun g => nf (g2.symm.trans g)⟩⟩
      by_cases c : w.1 1 < w.1 0
      · have k := b1.1 c
        by_cases d : lo ≤ (w.1 1) - (w.1 3)
        · exact fin _ (k.1 d) ⟨ie_up (ie_up (ie_refl _ _) (by decide)) (by decide), rfl, fun _ _ => rfl, rfl⟩ rfl
        · have kb := e5_blame (t := ((va_up w.1 4 ((w.1 1) - (w.1 3))), w.2)) nf (k.2 d)
          exact fin _ kb ⟨ie_up (ie_up (ie_refl _ _) (by decide)) (by decide), rfl, fun _ _ => rfl, rfl⟩ rfl
      · have kb := e5_blame (t := ((va_up w.1 4 ((w.1 1) - (w.1 3))), w.2)) nf (b1.2 c)
        exact fin _ kb ⟨ie_up (ie_up (ie_refl _ _) (by decide)) (by decide), rfl, fun _ _ => rfl, rfl⟩ rfl

/-! Words. -/
def LT (b : Int32) : Prop := 97 ≤ b.toInt ∧ b.toInt ≤ 122
theorem nI_tn {z : Int32} (h : 0 ≤ z.toInt) : nI z.toInt.toNat = z := Int32.toInt_inj.mp (by
  have := tq_r z
  rw [nI_toInt (by omega)]
  omega)
theorem qk {q : Int32} {k : Nat} (h0 : 0 ≤ q.toInt) (h1 : q.toInt ≤ 1000) (h2 : k ≤ 1000) : (q + nI k).toInt = q.toInt + (k : Int) := by
  have e := nI_toInt (n := k) (by omega)
  rw [nw (tq_add q (nI k)) (by omega), e]
theorem e_len {P : Int32 → Prop} {i : Nat} (h : wp_J0_length_8abf5 P i) : ∃ r, P r ∧ r.toInt = ln i := by
  obtain ⟨r, a, b⟩ := dt_both (dt_J0_length_8abf5 i) (P := P) (Q := fun r => r.toInt = ln i) h (wq_J0_length_8abf5 (fun r a _ => a))
  exact ⟨r, a, b⟩
theorem e_char {P : Int32 → Prop} {i : Nat} {x : Int32} (hx : 0 ≤ x.toInt ∧ x.toInt < ln i) (h : wp_J0_charAt_5068e P i x) : P (chv i x.toInt.toNat) := by
  obtain ⟨r, a, b⟩ := dt_both (dt_J0_charAt_5068e i x) (P := P) (Q := fun r => r = chv i x.toInt.toNat) h (wq_X7_charAtF hx (fun r _ a => a))
  rw [← b]
  exact a
theorem lnn (i : Nat) : 0 ≤ ln i ∧ ln i ≤ 6 := by
  have := st_le i
  unfold ln
  omega
/-! the reference's test of a word at a place -/
theorem e7_isW_L {i : Nat} {q : Int32} {v : Md} {p7 : Int32 → Md → Prop} {e7 : Md → Int32 → Int32 → Prop} : ∀ (n : Nat) (z : Int32), 0 ≤ z.toInt → z.toInt ≤ ln i → (∀ k : Nat, (k : Int) < z.toInt → tb7 v (q + nI k) = chv i k) → wp_X7_isWord_L22 i p7 e7 n v q z → ∃ z', e7 v q z' ∧ 0 ≤ z'.toInt ∧ z'.toInt ≤ ln i ∧ (∀ k : Nat, (k : Int) < z'.toInt → tb7 v (q + nI k) = chv i k) ∧ (z'.toInt = ln i ∨ ¬ tb7 v (q + z') = chv i z'.toInt.toNat) := by
  have l := lnn i
  have e1 : (1 : Int32).toInt = 1 := rfl
  intro n
  induction n with
  | zero =>
    intro z _ _ _ h
    exact (show False from h).elim
  | succ n ih =>
    intro z h0 h1 hk h
    unfold wp_X7_isWord_L22 at h
    obtain ⟨r, h, hr⟩ := e_len h
    by_cases c : r ≤ z
    · have := q_le c
      exact ⟨z, h.1 c, h0, h1, hk, Or.inl (by omega)⟩
    · have c1 := q_nle c
      have h := e_char (x := z) (i := i) (by omega) (e7_byteAt (h.2 c))
      by_cases d : tb7 v (q + z) = chv i z.toInt.toNat
      · have a := nw (tq_addr e1 z) (by omega)
        refine ih (z + 1) (by omega) (by omega) (fun k g => ?_) (h.2 d)
        by_cases f : (k : Int) < z.toInt
        · exact hk k f
        · have ek : k = z.toInt.toNat := by omega
          rw [ek, nI_tn h0]
          exact d
      · exact ⟨z, h.1 d, h0, h1, hk, Or.inr d⟩
theorem e7_isW_Lb {i : Nat} {q : Int32} {v : Md} {p7 : Int32 → Md → Prop} {e7 : Md → Int32 → Int32 → Prop} : ∀ (n : Nat) (z : Int32), 0 ≤ z.toInt → z.toInt ≤ ln i → (∀ k : Nat, (k : Int) < z.toInt → tb7 v (q + nI k) = chv i k) → wp_X7_isWord_L22b i p7 e7 n v q z → ∃ z', e7 v q z' ∧ 0 ≤ z'.toInt ∧ z'.toInt ≤ ln i ∧ (∀ k : Nat, (k : Int) < z'.toInt → tb7 v (q + nI k) = chv i k) ∧ (z'.toInt = ln i ∨ ¬ tb7 v (q + z') = chv i z'.toInt.toNat) := by
  have l := lnn i
  have e1 : (1 : Int32).toInt = 1 := rfl
  intro n
  induction n with
  | zero =>
    intro z _ _ _ h
    exact (show False from h).elim
  | succ n ih =>
    intro z h0 h1 hk h
    unfold wp_X7_isWord_L22b at h
    obtain ⟨r, h, hr⟩ := e_len h
    by_cases c : r ≤ z
    · have := q_le c
      exact ⟨z, h.1 c, h0, h1, hk, Or.inl (by omega)⟩
    · have c1 := q_nle c
      have h := e_char (x := z) (i := i) (by omega) (e7_byteAt (h.2 c))
      by_cases d : tb7 v (q + z) = chv i z.toInt.toNat
      · have a := nw (tq_addr e1 z) (by omega)
        refine ih (z + 1) (by omega) (by omega) (fun k g => ?_) (h.2 d)
        by_cases f : (k : Int) < z.toInt
        · exact hk k f
        · have ek : k = z.toInt.toNat := by omega
          rw [ek, nI_tn h0]
          exact d
      · exact ⟨z, h.1 d, h0, h1, hk, Or.inr d⟩
theorem e7_isW_end {P : Int32 → Md → Prop} {i : Nat} {v : Md} {z : Int32} (h0 : 0 ≤ z.toInt) (h1 : z.toInt ≤ ln i) (hk : ∀ k : Nat, (k : Int) < z.toInt → tb7 v (v.1 6 + nI k) = chv i k) (hz : z.toInt = ln i ∨ ¬ tb7 v (v.1 6 + z) = chv i z.toInt.toNat) (h : wp_J0_length_8abf5 (fun r_12 => ((¬ z = r_12 → P 0 v) ∧ (z = r_12 → wp_X7_byteAt (fun r_15 => wp_X7_in (fun r_17 => ((¬ r_17 = 0 → P 0 v) ∧ (r_17 = 0 → P 1 v))) (Int32.toInt64 r_15) (97 : Int64) (122 : Int64)) v (v.1 6 + z)))) i) : (P 1 v ∧ wd_y v i) ∨ (P 0 v ∧ ¬ wd_y v i) := by
  obtain ⟨r, h, hr⟩ := e_len h
  have ll : ln i = ((st_len.getD i 0 : Nat) : Int) := rfl
  by_cases c : z = r
  · have cz : z.toInt = ln i := by rw [c]; exact hr
    have ez : nI (st_len.getD i 0) = z := by
      rw [← nI_tn h0]
      congr 1
      omega
    have hm : wd_m v i (st_len.getD i 0) := fun k g => hk k (by omega)
    have h := e7_inC (i := 97) (j := 122) rfl rfl (e7_byteAt (h.2 c))
    unfold wd_y
    rw [ez]
    rcases h with ⟨h, a, b⟩ | ⟨h, a⟩
    · exact Or.inr ⟨h.1 (by decide), fun g => g.2 ⟨a, b⟩⟩
    · exact Or.inl ⟨h.2 rfl, hm, fun g => by omega⟩
  · have cz : z.toInt < ln i := by
      have : ¬ z.toInt = r.toInt := fun g => c (Int32.toInt_inj.mp g)
      omega
    refine Or.inr ⟨h.1 c, fun g => ?_⟩
    rcases hz with hz | hz
    · omega
    · have := g.1 z.toInt.toNat (by omega)
      rw [nI_tn h0] at this
      exact hz this
theorem e7_isW_rest {P : Int32 → Md → Prop} {i : Nat} {v : Md} (hs : (v.1 6).toInt ≤ (v.1 5).toInt) (h : ((¬ tb7 v (v.1 6) = (-1) → (∃ n22, wp_X7_isWord_L22 i P (fun t0 z2 z3 => wp_J0_length_8abf5 (fun r_12 => ((¬ z3 = r_12 → P 0 t0) ∧ (z3 = r_12 → wp_X7_byteAt (fun r_15 => wp_X7_in (fun r_17 => ((¬ r_17 = 0 → P 0 t0) ∧ (r_17 = 0 → P 1 t0))) (Int32.toInt64 r_15) (97 : Int64) (122 : Int64)) t0 (z2 + z3)))) i) n22 v (v.1 6) 0)) ∧ (tb7 v (v.1 6) = (-1) → (∃ n22, wp_X7_isWord_L22b i P (fun t0 z2 z3 => wp_J0_length_8abf5 (fun r_28 => ((¬ z3 = r_28 → P 0 t0) ∧ (z3 = r_28 → wp_X7_byteAt (fun r_31 => wp_X7_in (fun r_33 => ((¬ r_33 = 0 → P 0 t0) ∧ (r_33 = 0 → P 1 t0))) (Int32.toInt64 r_31) (97 : Int64) (122 : Int64)) t0 (z2 + z3)))) i) n22 v (v.1 5) 0)))) : (P 1 v ∧ wd_y v i) ∨ (P 0 v ∧ ¬ wd_y v i) := by
  have l := lnn i
  have e0 : (0 : Int32).toInt = 0 := rfl
  by_cases c : tb7 v (v.1 6) = -1
  · obtain ⟨n, h⟩ := h.2 c
    have e65 : v.1 5 = v.1 6 := Int32.toInt_inj.mp (by
      rcases tb7_r v (v.1 6) with g | g
      · have := q_le g.1
        omega
      · rw [c] at g
        exact absurd g.2.1 (by decide))
    rw [e65] at h
    obtain ⟨z, a, b, d, e, f⟩ := e7_isW_Lb n 0 (by omega) (by omega) (fun k g => by omega) h
    exact e7_isW_end b d e f a
  · obtain ⟨n, h⟩ := h.1 c
    obtain ⟨z, a, b, d, e, f⟩ := e7_isW_L n 0 (by omega) (by omega) (fun k g => by omega) h
    exact e7_isW_end b d e f a
theorem e7_next {P : Int32 → Md → Prop} {v : Md} (hb : ¬ tb7 v (v.1 6) = 32) (h : wp_X7_nextByte P v) : P (tb7 v (v.1 6)) v := by
  unfold wp_X7_nextByte at h
  obtain ⟨n, h⟩ := h
  cases n with
  | zero => exact (show False from h).elim
  | succ n =>
    unfold wp_X7_nextByte_L0 at h
    exact e7_byteAt ((e7_byteAt h).1 hb)
theorem e7_isWord {P : Int32 → Md → Prop} {i : Nat} {v : Md} (hs : (v.1 6).toInt ≤ (v.1 5).toInt) (hb : ¬ tb7 v (v.1 6) = 32) (h : wp_X7_isWord P v i) : (P 1 v ∧ wd_y v i) ∨ (P 0 v ∧ ¬ wd_y v i) := by
  unfold wp_X7_isWord at h
  exact e7_isW_rest hs (e7_next hb h)
/-! the class's word -/
def RD (t : Tp) (i : Nat) : Prop := ln i = (t.1 1).toInt - (t.1 2).toInt ∧ ∀ k : Nat, (k : Int) < ln i → t.2 (Int32.toNatClampNeg (t.1 2 + nI k)) = chv i k
theorem e5_isRead_L {t : Tp} {i : Nat} {p6 : Int32 → Prop} {e6 : Int32 → Prop} : ∀ (n : Nat) (z : Int32), 0 ≤ z.toInt → z.toInt ≤ ln i → (∀ k : Nat, (k : Int) < z.toInt → t.2 (Int32.toNatClampNeg (t.1 2 + nI k)) = chv i k) → wp_X5_isRead_L20 t i p6 e6 n z → ((∃ z', e6 z') ∧ ∀ k : Nat, (k : Int) < ln i → t.2 (Int32.toNatClampNeg (t.1 2 + nI k)) = chv i k) ∨ (p6 0 ∧ ¬ ∀ k : Nat, (k : Int) < ln i → t.2 (Int32.toNatClampNeg (t.1 2 + nI k)) = chv i k) := by
  have l := lnn i
  have e1 : (1 : Int32).toInt = 1 := rfl
  intro n
  induction n with
  | zero =>
    intro z _ _ _ h
    exact (show False from h).elim
  | succ n ih =>
    intro z h0 h1 hk h
    unfold wp_X5_isRead_L20 at h
    obtain ⟨r, h, hr⟩ := e_len h
    by_cases c : r ≤ z
    · have := q_le c
      exact Or.inl ⟨⟨z, h.1 c⟩, fun k g => hk k (by omega)⟩
    · have c1 := q_nle c
      have h := (e_char (x := z) (i := i) (by omega) (h.2 c)).2
      by_cases d : chv i z.toInt.toNat = t.2 (Int32.toNatClampNeg (t.1 2 + z))
      · have a := nw (tq_addr e1 z) (by omega)
        refine ih (z + 1) (by omega) (by omega) (fun k g => ?_) (h.1 d)
        by_cases f : (k : Int) < z.toInt
        · exact hk k f
        · have ek : k = z.toInt.toNat := by omega
          rw [ek, nI_tn h0]
          exact d.symm
      · refine Or.inr ⟨h.2 d, fun g => d ?_⟩
        have := g z.toInt.toNat (by omega)
        rw [nI_tn h0] at this
        exact this.symm
theorem e5_isRead {P : Int32 → Prop} {t : Tp} {i : Nat} (h0 : 0 ≤ (t.1 2).toInt) (h1 : (t.1 2).toInt ≤ (t.1 1).toInt) (h : wp_X5_isRead P t i) : (P 1 ∧ RD t i) ∨ (P 0 ∧ ¬ RD t i) := by
  have l := lnn i
  have e0 : (0 : Int32).toInt = 0 := rfl
  unfold wp_X5_isRead at h
  obtain ⟨r, h, hr⟩ := e_len h
  have s1 := nw (tq_sub (t.1 1) (t.1 2)) (by have := tq_r (t.1 1); omega)
  by_cases c : r = (t.1 1) - (t.1 2)
  · have c1 := q_eq c
    obtain ⟨n, h⟩ := h.1 c
    rcases e5_isRead_L n 0 (by omega) (by omega) (fun k g => by omega) h with ⟨⟨z, a⟩, b⟩ | ⟨a, b⟩
    · exact Or.inl ⟨a, by omega, b⟩
    · exact Or.inr ⟨a, fun g => b g.2⟩
  · refine Or.inr ⟨h.2 c, fun g => c (Int32.toInt_inj.mp ?_)⟩
    have := g.1
    omega
theorem e5_wordRead {P : Int32 → Prop} {t : Tp} (h0 : 0 ≤ (t.1 2).toInt) (h1 : (t.1 2).toInt ≤ (t.1 1).toInt) (h : wp_X5_wordRead P t) : ∃ r, P r ∧ ((∃ i : Nat, i < 12 ∧ r.toInt = (i : Int) + 1 ∧ RD t i) ∨ (r = 0 ∧ ∀ i, i < 12 → ¬ RD t i)) := by
  unfold wp_X5_wordRead at h
  rcases e5_isRead h0 h1 h with ⟨h, a0⟩ | ⟨h, a0⟩
  · exact ⟨1, h.2 (by decide), Or.inl ⟨0, by decide, rfl, a0⟩⟩
  rcases e5_isRead h0 h1 (h.1 rfl) with ⟨h, a1⟩ | ⟨h, a1⟩
  · exact ⟨2, h.2 (by decide), Or.inl ⟨1, by decide, rfl, a1⟩⟩
  rcases e5_isRead h0 h1 (h.1 rfl) with ⟨h, a2⟩ | ⟨h, a2⟩
  · exact ⟨3, h.2 (by decide), Or.inl ⟨2, by decide, rfl, a2⟩⟩
  rcases e5_isRead h0 h1 (h.1 rfl) with ⟨h, a3⟩ | ⟨h, a3⟩
  · exact ⟨4, h.2 (by decide), Or.inl ⟨3, by decide, rfl, a3⟩⟩
  rcases e5_isRead h0 h1 (h.1 rfl) with ⟨h, a4⟩ | ⟨h, a4⟩
  · exact ⟨5, h.2 (by decide), Or.inl ⟨4, by decide, rfl, a4⟩⟩
  rcases e5_isRead h0 h1 (h.1 rfl) with ⟨h, a5⟩ | ⟨h, a5⟩
  · exact ⟨6, h.2 (by decide), Or.inl ⟨5, by decide, rfl, a5⟩⟩
  rcases e5_isRead h0 h1 (h.1 rfl) with ⟨h, a6⟩ | ⟨h, a6⟩
  · exact ⟨7, h.2 (by decide), Or.inl ⟨6, by decide, rfl, a6⟩⟩
  rcases e5_isRead h0 h1 (h.1 rfl) with ⟨h, a7⟩ | ⟨h, a7⟩
  · exact ⟨8, h.2 (by decide), Or.inl ⟨7, by decide, rfl, a7⟩⟩
  rcases e5_isRead h0 h1 (h.1 rfl) with ⟨h, a8⟩ | ⟨h, a8⟩
  · exact ⟨9, h.2 (by decide), Or.inl ⟨8, by decide, rfl, a8⟩⟩
  rcases e5_isRead h0 h1 (h.1 rfl) with ⟨h, a9⟩ | ⟨h, a9⟩
  · exact ⟨10, h.2 (by decide), Or.inl ⟨9, by decide, rfl, a9⟩⟩
  rcases e5_isRead h0 h1 (h.1 rfl) with ⟨h, a10⟩ | ⟨h, a10⟩
  · exact ⟨11, h.2 (by decide), Or.inl ⟨10, by decide, rfl, a10⟩⟩
  rcases e5_isRead h0 h1 (h.1 rfl) with ⟨h, a11⟩ | ⟨h, a11⟩
  · exact ⟨12, h.2 (by decide), Or.inl ⟨11, by decide, rfl, a11⟩⟩
  refine ⟨0, h.1 rfl, Or.inr ⟨rfl, fun i hi => ?_⟩⟩
  rcases (show i = 0 ∨ i = 1 ∨ i = 2 ∨ i = 3 ∨ i = 4 ∨ i = 5 ∨ i = 6 ∨ i = 7 ∨ i = 8 ∨ i = 9 ∨ i = 10 ∨ i = 11 by omega) with rfl | rfl | rfl | rfl | rfl | rfl | rfl | rfl | rfl | rfl | rfl | rfl <;> assumption
theorem e5_word_L {p6 : Int32 → Tp → Prop} {e6 : Tp → Prop} : ∀ (n : Nat) (t : Tp), 0 ≤ (t.1 1).toInt → (t.1 1).toInt ≤ (t.1 0).toInt → (t.1 0).toInt ≤ 400 → wp_X5_takeWord_L13 p6 e6 n t → ∃ u, e6 u ∧ ie [1] u.1 t.1 ∧ u.2 = t.2 ∧ (t.1 1).toInt ≤ (u.1 1).toInt ∧ (u.1 1).toInt ≤ (t.1 0).toInt ∧ (∀ k : Nat, (k : Int) < (u.1 1).toInt - (t.1 1).toInt → LT (tb5 t (t.1 1 + nI k))) ∧ ¬ LT (tb5 t (u.1 1)) := by
  have e1 : (1 : Int32).toInt = 1 := rfl
  have e97 : (97 : Int32).toInt = 97 := rfl
  have e122 : (122 : Int32).toInt = 122 := rfl
  intro n
  induction n with
  | zero =>
    intro t _ _ _ h
    exact (show False from h).elim
  | succ n ih =>
    intro t h0 h1 h2 h
    unfold wp_X5_takeWord_L13 at h
    by_cases c : t.1 0 ≤ t.1 1
    · refine ⟨t, h.1 c, ie_refl _ _, rfl, Int.le_refl _, h1, fun k g => by omega, fun g => ?_⟩
      have : tb5 t (t.1 1) = -1 := by
        unfold tb5
        rw [if_pos c]
      rw [this] at g
      exact absurd g.1 (by decide)
    · have c1 := q_nle c
      have k1 := e5_byteAt h0 (h.2 c)
      by_cases d : tb5 t (t.1 1) < 97
      · have := q_lt d
        exact ⟨t, k1.1 d, ie_refl _ _, rfl, Int.le_refl _, h1, fun k g => by omega, fun g => by have := g.1; omega⟩
      · have d1 := q_nlt d
        have k2 := e5_byteAt h0 (k1.2 d)
        by_cases f : 122 < tb5 t (t.1 1)
        · have := q_lt f
          exact ⟨t, k2.1 f, ie_refl _ _, rfl, Int.le_refl _, h1, fun k g => by omega, fun g => by have := g.2; omega⟩
        · have f1 := q_nlt f
          have a := nw (tq_addr e1 (t.1 1)) (by omega)
          obtain ⟨u, a1, a2, a3, a4, a5, a6, a7⟩ := ih ((va_up t.1 1 ((t.1 1) + 1)), t.2) (show 0 ≤ (t.1 1 + 1).toInt by omega) (show (t.1 1 + 1).toInt ≤ (t.1 0).toInt by omega) h2 (k2.2 f)
          have a4 : (t.1 1 + 1).toInt ≤ (u.1 1).toInt := a4
          have a5 : (u.1 1).toInt ≤ (t.1 0).toInt := a5
          refine ⟨u, a1, ie_tr a2 (by decide) (ie_up (ie_refl _ _) (by decide)), a3, by omega, a5, fun k g => ?_, a7⟩
          cases k with
          | zero =>
            have : t.1 1 + nI 0 = t.1 1 := Int32.add_zero _
            rw [this]
            exact ⟨by omega, by omega⟩
          | succ k =>
            have a6 := a6 k (show (k : Int) < (u.1 1).toInt - (t.1 1 + 1).toInt by omega)
            have e : (t.1 1 + 1) + nI k = t.1 1 + nI (k + 1) := Int32.toInt_inj.mp (by
              rw [qk (by omega) (by omega) (by omega), qk (by omega) (by omega) (by omega)]
              omega)
            have a6 : LT (tb5 t ((t.1 1 + 1) + nI k)) := a6
            rw [e] at a6
            exact a6
def CW (r : Int32) (u : Tp) (v : Md) : Prop := RX u v ∧ u.1 2 = v.1 6 ∧ 0 ≤ (v.1 6).toInt ∧ (v.1 6).toInt ≤ (v.1 5).toInt ∧ u.1 5 = 0 ∧ (0 ≤ r.toInt ∧ r.toInt ≤ 12) ∧ (∀ i : Nat, i < 12 → (r.toInt = (i : Int) + 1 ↔ wd_y v i)) ∧ (∀ i : Nat, i < 12 → wd_y v i → u.1 1 = v.1 6 + nI (st_len.getD i 0) ∧ (v.1 6).toInt + ln i ≤ (v.1 5).toInt)
theorem wd_uniq : ∀ i, i < 12 → ∀ j, j < 12 → st_len.getD i 0 = st_len.getD j 0 → (∀ k, k < st_len.getD i 0 → chv i k = chv j k) → i = j := by decide +kernel
theorem RD_wd {u : Tp} {v : Md} {i : Nat} (hi : i < 12) (hx : RX u v) (h2 : u.1 2 = v.1 6) (h0 : 0 ≤ (v.1 6).toInt) (h1 : (v.1 6).toInt ≤ (u.1 1).toInt) (hN : (u.1 1).toInt ≤ (v.1 5).toInt) (hl : ∀ k : Nat, (k : Int) < (u.1 1).toInt - (v.1 6).toInt → LT (tb7 v (v.1 6 + nI k))) (hn : ¬ LT (tb7 v (u.1 1))) : RD u i ↔ wd_y v i := by
  have b := hx.2.2
  have l := lnn i
  have ll : ln i = ((st_len.getD i 0 : Nat) : Int) := rfl
  have by_ : ∀ k : Nat, (v.1 6).toInt + (k : Int) < (v.1 5).toInt → u.2 (Int32.toNatClampNeg (u.1 2 + nI k)) = tb7 v (v.1 6 + nI k) := fun k g => by
    rw [← tb_eq hx, ← h2]
    unfold tb5
    rw [if_neg]
    intro f
    have f1 := q_le f
    rw [hx.1, h2, qk (by omega) (by omega) (by omega)] at f1
    omega
  unfold RD wd_y wd_m
  constructor
  · intro ⟨a, c⟩
    rw [h2] at a
    have ep : v.1 6 + nI (st_len.getD i 0) = u.1 1 := Int32.toInt_inj.mp (by
      rw [qk (by omega) (by omega) (by omega)]
      omega)
    refine ⟨fun k g => ?_, ?_⟩
    · rw [← by_ k (by omega)]
      exact c k (by omega)
    · rw [ep]
      exact hn
  · intro ⟨a, c⟩
    have e : ln i = (u.1 1).toInt - (v.1 6).toInt := by
      by_cases g : (u.1 1).toInt - (v.1 6).toInt < ln i
      · exfalso
        have k := a ((u.1 1).toInt - (v.1 6).toInt).toNat (by omega)
        have ep : v.1 6 + nI ((u.1 1).toInt - (v.1 6).toInt).toNat = u.1 1 := Int32.toInt_inj.mp (by
          rw [qk (by omega) (by omega) (by omega)]
          omega)
        rw [ep] at k
        refine hn ?_
        rw [k]
        exact ch_b i hi _ (by omega)
      · by_cases f : ln i < (u.1 1).toInt - (v.1 6).toInt
        · exact absurd (hl (st_len.getD i 0) (by omega)) c
        · omega
    refine ⟨by rw [h2]; exact e, fun k g => ?_⟩
    rw [by_ k (by omega)]
    exact a k (by omega)
theorem sm_word_core {P6 : Int32 → Tp → Prop} {u : Tp} {v : Md} {n6 : Nat} (a3 : RT u v) (h6 : wp_X5_takeWord_L13 P6 (fun t0 => wp_X5_wordRead (fun r_10 => P6 r_10 t0) t0) n6 ((va_up u.1 2 (u.1 1)), u.2)) : ∃ r w, P6 r w ∧ FR u w v v ∧ CW r w v := by
  have bb := a3.1.2.2
  have bc := a3.2.2
  obtain ⟨w0, hw0⟩ : ∃ x : Tp, x = ((va_up u.1 2 (u.1 1)), u.2) := ⟨_, rfl⟩
  rw [← hw0] at h6
  have r0 : RT w0 v := by rw [hw0]; exact a3
  have e2 : w0.1 2 = w0.1 1 := by rw [hw0]; rfl
  have fr0 : FR u w0 v v := ⟨by rw [hw0]; exact ie_up (ie_refl _ _) (by decide), by rw [hw0], fun _ _ => rfl, rfl⟩
  have e61 : w0.1 1 = v.1 6 := r0.2.1
  obtain ⟨w, b1, b2, b3, b4, b5, b6, b7⟩ := e5_word_L n6 w0 (by rw [e61]; omega) (by rw [e61, r0.1.1]; omega) (by rw [r0.1.1]; omega) h6
  have fr1 : FR w0 w v v := ⟨ie_tr b2 (by decide) (ie_refl _ _), b3, fun _ _ => rfl, rfl⟩
  have fr := FR_tr fr0 fr1
  have w2 : w.1 2 = v.1 6 := (b2 2 (by decide)).trans (e2.trans e61)
  have w5 : w.1 5 = 0 := (b2 5 (by decide)).trans r0.2.2.2.2
  have rx := RX_fr r0.1 fr1
  rw [e61] at b4 b6
  rw [r0.1.1] at b5
  have b6 : ∀ k : Nat, (k : Int) < (w.1 1).toInt - (v.1 6).toInt → LT (tb7 v (v.1 6 + nI k)) := fun k g => by
    rw [← tb_eq r0.1]
    exact b6 k g
  have b7 : ¬ LT (tb7 v (w.1 1)) := by
    rw [← tb_eq r0.1]
    exact b7
  have key : ∀ i, i < 12 → (RD w i ↔ wd_y v i) := fun i hi => RD_wd hi rx w2 bc.1 b4 b5 b6 b7
  have ends : ∀ i : Nat, i < 12 → wd_y v i → w.1 1 = v.1 6 + nI (st_len.getD i 0) ∧ (v.1 6).toInt + ln i ≤ (v.1 5).toInt := fun i hi g => by
    have g1 := ((key i hi).mpr g).1
    have l := lnn i
    have ll : ln i = ((st_len.getD i 0 : Nat) : Int) := rfl
    rw [w2] at g1
    refine ⟨Int32.toInt_inj.mp ?_, by omega⟩
    rw [qk (by omega) (by omega) (by omega)]
    omega
  obtain ⟨r, c1, c2⟩ := e5_wordRead (by rw [w2]; omega) (by rw [w2]; omega) b1
  refine ⟨r, w, c1, fr, rx, w2, bc.1, bc.2.1, w5, ?_, fun i hi => ?_, ends⟩
  · rcases c2 with ⟨i, g1, g2, _⟩ | ⟨g, _⟩
    · omega
    · rw [g]
      decide
  · rcases c2 with ⟨j, g1, g2, g3⟩ | ⟨g, g2⟩
    · constructor
      · intro h
        have : j = i := by omega
        rw [← this]
        exact (key j g1).mp g3
      · intro h
        have k1 := (key i hi).mpr h
        have l1 : ln i = ((st_len.getD i 0 : Nat) : Int) := rfl
        have l2 : ln j = ((st_len.getD j 0 : Nat) : Int) := rfl
        have ee : i = j := wd_uniq i hi j g1 (by have := k1.1; have := g3.1; omega) (fun k hk => (k1.2 k (by omega)).symm.trans (g3.2 k (by have := k1.1; have := g3.1; omega)))
        rw [ee]
        exact g2
    · constructor
      · intro h
        rw [g] at h
        have e0 : (0 : Int32).toInt = 0 := rfl
        omega
      · intro h
        exact absurd ((key i hi).mpr h) (g2 i hi)
theorem sm_word {P6 : Int32 → Tp → Prop} {P7 : Int32 → Md → Prop} {t : Tp} {s : Md} {i0 : Nat} (hR : RT t s) (h6 : wp_X5_takeWord P6 t) (h7 : wp_X7_isWord P7 s i0) : ∃ r u r7 v, P6 r u ∧ P7 r7 v ∧ FR t u s v ∧ CW r u v ∧ ((r7 = 1 ∧ wd_y v i0) ∨ (r7 = 0 ∧ ¬ wd_y v i0)) ∧ ¬ tb7 v (v.1 6) = 32 := by
  unfold wp_X5_takeWord at h6
  unfold wp_X7_isWord at h7
  obtain ⟨u, v, a1, a2, a3, a4, a5, a6, _⟩ := sm_peek hR h6 h7
  obtain ⟨n6, h6⟩ := a1
  have h7 := e7_isW_rest a3.2.2.2.1 a2
  obtain ⟨r, w, c1, fr, cw⟩ := sm_word_core a3 h6
  rcases h7 with ⟨h7, d⟩ | ⟨h7, d⟩
  · exact ⟨r, w, 1, v, c1, h7, FR_tr a4 fr, cw, Or.inl ⟨rfl, d⟩, a5⟩
  · exact ⟨r, w, 0, v, c1, h7, FR_tr a4 fr, cw, Or.inr ⟨rfl, d⟩, a5⟩
/-- a word that must stand: the class's takeThisWord beside mustWord -/
theorem sm_thisWord {P6 : Tp → Prop} {P7 : Int32 → Md → Prop} {t : Tp} {s : Md} {i : Nat} {x : Int32} (hi : i < 12) (hx : x.toInt = (i : Int) + 1) (hR : RT t s) (h6 : wp_X5_takeThisWord P6 t x) (h7 : wp_X7_mustWord P7 s i) : ∃ u r v, P6 u ∧ P7 r v ∧ FR t u s v ∧ ((r = 1 ∧ RT u v) ∨ (r = 0 ∧ FL u v)) := by
  unfold wp_X5_takeThisWord at h6
  unfold wp_X7_mustWord wp_X7_takesWord at h7
  obtain ⟨r, u, r7, v, a1, a2, a3, a4, a5, a6⟩ := sm_word hR h6 h7
  obtain ⟨c1, c2, c3, c4, c5, c6, c7, c8⟩ := a4
  have bb := c1.2.2
  rcases a5 with ⟨rfl, d⟩ | ⟨rfl, d⟩
  · have er : r = x := Int32.toInt_inj.mp (((c7 i hi).mpr d).trans hx.symm)
    obtain ⟨r5, h7, hr⟩ := e_len (a2.2 (by decide))
    have h7 := h7.2.1 (by decide)
    obtain ⟨g1, g2⟩ := c8 i hi d
    have l := lnn i
    have ll : ln i = ((st_len.getD i 0 : Nat) : Int) := rfl
    have e5 : r5 = nI (st_len.getD i 0) := Int32.toInt_inj.mp (by
      rw [nI_toInt (by omega)]
      omega)
    have k := qk (q := v.1 6) (k := st_len.getD i 0) (by omega) (by omega) (by omega)
    refine ⟨u, 1, _, a1.1 er, h7, FR_tr a3 ⟨ie_refl _ _, rfl, ie_up (ie_refl _ _) (by decide), rfl⟩, Or.inl ⟨rfl, c1, ?_, ?_, ?_, c5⟩⟩
    · show u.1 1 = v.1 6 + r5
      rw [e5]
      exact g1
    · show 0 ≤ (v.1 6 + r5).toInt
      rw [e5]
      omega
    · show (v.1 6 + r5).toInt ≤ (v.1 5).toInt
      rw [e5]
      omega
  · have er : ¬ r = x := fun g => d ((c7 i hi).mp (by rw [g]; exact hx))
    obtain ⟨w, y, b1, b2, b3, b4⟩ := sm_fault c5 c2 c3 (by omega) (by decide) (by decide) (a1.2 er) ((a2.1 rfl).2.2 rfl)
    exact ⟨w, 0, y, b1, b2.1 rfl, FR_tr a3 b3, Or.inr ⟨rfl, b4⟩⟩

/-! Boards: the class's beside the reference's row; which flap a sign is wanted by. -/
theorem bs_sr {w : Int64} {k : Nat} (hk : k < 64) : (w >>> ((nI k).toInt64 &&& 63)) &&& 1 = lN (if bs_at w k = true then 1 else 0) := by
  rw [wb_c k hk]
  obtain ⟨n, hn, e⟩ := wb_of (w >>> lN k)
  have hb : n.testBit 0 = bs_at w k := by
    have e2 : (w >>> lN k).toBitVec.toNat = n := by
      rw [e]
      exact wb_tn hn
    rw [← e2]
    show (w >>> lN k).toBitVec.getLsbD 0 = w.toBitVec.getLsbD k
    rw [Int64.toBitVec_shiftRight, wb_tb, wb_sm k hk]
    show (w.toBitVec.sshiftRight (BitVec.ofNat 64 k).toNat).getLsbD 0 = _
    rw [BitVec.toNat_ofNat, Nat.mod_eq_of_lt (by omega), BitVec.getLsbD_sshiftRight]
    simp [hk]
  rw [e, wb_a1 hn, ← hb, Nat.testBit_zero]
  rcases Nat.mod_two_eq_zero_or_one n with h | h <;> simp [h]
theorem bs_wt {w : Int64} {x : Int32} (hx : 0 ≤ x.toInt ∧ x.toInt < 64) : (lg_cmp ((w >>> (Int32.toInt64 x &&& 63)) &&& 1) 0 = 0) ↔ bs_at w x.toInt.toNat = false := by
  have e2 := nI_z hx.1
  generalize hj : x.toInt.toNat = j at e2
  have hj2 : j < 64 := by omega
  rw [lg_cmp_eq, e2, bs_sr hj2]
  cases bs_at w j with
  | false => exact ⟨fun _ => rfl, fun _ => rfl⟩
  | true => exact ⟨fun h => absurd h (by decide), fun h => absurd h (by decide)⟩
theorem bs_not {w : Int64} {k : Nat} (hk : k < 64) : bs_at (w ^^^ (-1)) k = !bs_at w k := by
  show (w ^^^ (-1)).toBitVec.getLsbD k = !w.toBitVec.getLsbD k
  rw [Int64.toBitVec_xor, BitVec.getLsbD_xor, show (-1 : Int64).toBitVec = BitVec.allOnes 64 from rfl, BitVec.getLsbD_allOnes]
  simp [hk]
/-- a drum as it may be: its flaps, its current, its signs -/
def DG (f : Nat → Int64) (d : Nat) : Prop := d_f f d ≤ 40 ∧ 1 ≤ (f (8 + 42 * d)).toInt ∧ (f (8 + 42 * d)).toInt ≤ 9 ∧ ∀ k : Nat, (k : Int) < d_f f d → 32 ≤ (f (8 + 42 * d + 2 + k)).toInt ∧ (f (8 + 42 * d + 2 + k)).toInt ≤ 126
theorem DG_k {f g : Nat → Int64} {d : Nat} (h : DG f d) (e : ∀ i, 8 + 42 * d ≤ i → i < 8 + 42 * d + 42 → g i = f i) : DG g d := by
  obtain ⟨h1, h2, h3, h4⟩ := h
  have ed : d_f g d = d_f f d := by
    unfold d_f
    rw [e _ (by omega) (by omega)]
  refine ⟨by rw [ed]; exact h1, by rw [e _ (by omega) (by omega)]; exact h2, by rw [e _ (by omega) (by omega)]; exact h3, fun k hk => ?_⟩
  rw [ed] at hk
  rw [e _ (by omega) (by omega)]
  exact h4 k hk
def RB (s : Bd) (f : Nat → Int64) : Prop := (s.1 0 = Int64.toInt32 (f 0) ∧ s.1 1 = Int64.toInt32 (f 1) ∧ s.1 2 = Int64.toInt32 (f 2) ∧ s.1 3 = Int64.toInt32 (f 3)) ∧ (((f 3).toInt ≤ 4 ∧ ((f 0).toInt ≤ 0 ∨ 0 < (f 1).toInt)) ∧ ∀ d : Nat, (d : Int) < (f 3).toInt → DG f d ∧ s.2.1 0 d = Int64.toInt32 (f (8 + 42 * d)) ∧ s.2.1 1 d = Int64.toInt32 (f (8 + 42 * d + 1)) ∧ ∀ k : Nat, (k : Int) < d_f f d → s.2.1 2 (40 * d + k) = Int64.toInt32 (f (8 + 42 * d + 2 + k))) ∧ (∀ c : Nat, (c : Int) < (f 0).toInt * (f 1).toInt → (∀ j : Nat, j < 7 → s.2.1 (3 + j) c = Int64.toInt32 (f (176 + 8 * c + j))) ∧ s.2.2.1 c = f (176 + 8 * c + 7) ∧ bs_at (f (176 + 8 * c + 7)) 0 = false)
theorem t32 {y : Int64} (h : -2147483648 ≤ y.toInt ∧ y.toInt < 2147483648) : (Int64.toInt32 y).toInt = y.toInt := nw (tq_32 y) h
theorem ixc {x j : Int32} (h0 : 0 ≤ x.toInt) (h1 : x.toInt < 40) (h2 : 0 ≤ j.toInt) (h3 : j.toInt < 8) : Int32.toNatClampNeg ((176 + (8 * x)) + j) = 176 + 8 * x.toInt.toNat + j.toInt.toNat := by
  have e8 : (8 : Int32).toInt = 8 := rfl
  have e176 : (176 : Int32).toInt = 176 := rfl
  have a1 := nw (tq_mulc e8 x) (by omega)
  have a2 := nw (tq_addc e176 (8 * x)) (by omega)
  have a3 := nw (tq_add (176 + 8 * x) j) (by omega)
  rw [tn_i]
  omega
theorem ixd {x : Int32} (h0 : 0 ≤ x.toInt) (h1 : x.toInt < 4) : Int32.toNatClampNeg ((8 + (42 * x)) + 1) = 8 + 42 * x.toInt.toNat + 1 := by
  have e8 : (8 : Int32).toInt = 8 := rfl
  have e42 : (42 : Int32).toInt = 42 := rfl
  have e1 : (1 : Int32).toInt = 1 := rfl
  have a1 := nw (tq_mulc e42 x) (by omega)
  have a2 := nw (tq_addc e8 (42 * x)) (by omega)
  have a3 := nw (tq_addr e1 (8 + 42 * x)) (by omega)
  rw [tn_i]
  omega
theorem ixs {x k : Int32} (h0 : 0 ≤ x.toInt) (h1 : x.toInt < 4) (h2 : 0 ≤ k.toInt) (h3 : k.toInt < 40) : Int32.toNatClampNeg (((8 + (42 * x)) + 2) + k) = 8 + 42 * x.toInt.toNat + 2 + k.toInt.toNat := by
  have e8 : (8 : Int32).toInt = 8 := rfl
  have e42 : (42 : Int32).toInt = 42 := rfl
  have e2 : (2 : Int32).toInt = 2 := rfl
  have a1 := nw (tq_mulc e42 x) (by omega)
  have a2 := nw (tq_addc e8 (42 * x)) (by omega)
  have a3 := nw (tq_addr e2 (8 + 42 * x)) (by omega)
  have a4 := nw (tq_add ((8 + 42 * x) + 2) k) (by omega)
  rw [tn_i]
  omega
theorem e7_of {P : Int32 → Prop} {s : Md} {x j : Int32} {i : Nat} (h0 : 0 ≤ x.toInt) (h1 : x.toInt < 40) (hj : j.toInt = (i : Int)) (hi : i < 8) (h : wp_X7_of P s x j) : P (Int64.toInt32 (s.2.2.1 0 (176 + 8 * x.toInt.toNat + i))) := by
  unfold wp_X7_of at h
  have h := h.2
  rw [ixc h0 h1 (by omega) (by omega), show j.toInt.toNat = i by omega] at h
  exact h
theorem e7_wornOf {P : Int64 → Prop} {s : Md} {x : Int32} (h0 : 0 ≤ x.toInt) (h1 : x.toInt < 40) (h : wp_X7_wornOf P s x) : P (s.2.2.1 0 (176 + 8 * x.toInt.toNat + 7)) := by
  unfold wp_X7_wornOf at h
  have h := h.2
  rw [ixc h0 h1 (by decide) (by decide)] at h
  exact h
theorem e7_signOf {P : Int32 → Prop} {s : Md} {x k : Int32} (h0 : 0 ≤ x.toInt) (h1 : x.toInt < 4) (h2 : 0 ≤ k.toInt) (h3 : k.toInt < 40) (h : wp_X7_signOf P s x k) : P (Int64.toInt32 (s.2.2.1 0 (8 + 42 * x.toInt.toNat + 2 + k.toInt.toNat))) := by
  unfold wp_X7_signOf at h
  have h := h.2
  rw [ixs h0 h1 h2 h3] at h
  exact h
theorem e7_flapsOf {P : Int32 → Prop} {s : Md} {x : Int32} (h0 : 0 ≤ x.toInt) (h1 : x.toInt < 4) (h : wp_X7_flapsOf P s x) : P (Int64.toInt32 (s.2.2.1 0 (8 + 42 * x.toInt.toNat + 1))) := by
  unfold wp_X7_flapsOf at h
  have h := h.2
  rw [ixd h0 h1] at h
  exact h
theorem e7_isIn {P : Int32 → Prop} {y : Int64} {x : Int32} (hx : 0 ≤ x.toInt ∧ x.toInt < 64) (h : wp_X7_isIn P y x) : (P 1 ∧ bs_at y x.toInt.toNat = true) ∨ (P 0 ∧ bs_at y x.toInt.toNat = false) := by
  unfold wp_X7_isIn at h
  by_cases c : lg_cmp ((((y).toUInt64 >>> ((Int32.toInt64 x).toUInt64 &&& Int64.toUInt64 63)).toInt64) &&& 1) 1 = 0
  · exact Or.inl ⟨h.2 c, (bs_in hx).mp c⟩
  · refine Or.inr ⟨h.1 c, ?_⟩
    cases g : bs_at y x.toInt.toNat with
    | false => rfl
    | true => exact absurd ((bs_in hx).mpr g) c
theorem e7_on {P : Int32 → Prop} {x0 x1 x2 : Int32} (h2 : 1 ≤ x2.toInt ∧ x2.toInt ≤ 40) (h0 : 0 ≤ x0.toInt ∧ x0.toInt < x2.toInt) (h1 : 0 ≤ x1.toInt ∧ x1.toInt < x2.toInt) (h : wp_X7_on P x0 x1 x2) : ∃ r, P r ∧ ((x0.toInt ≤ x1.toInt ∧ r.toInt = x1.toInt - x0.toInt) ∨ (x1.toInt < x0.toInt ∧ r.toInt = x1.toInt - x0.toInt + x2.toInt)) := by
  obtain ⟨r, a, b⟩ := dt_both (dt_X7_on x0 x1 x2) (P := P) (Q := fun r => (x0.toInt ≤ x1.toInt ∧ r.toInt = x1.toInt - x0.toInt) ∨ (x1.toInt < x0.toInt ∧ r.toInt = x1.toInt - x0.toInt + x2.toInt)) h (wq_X7_on h2 h0 h1 (fun r a => a))
  exact ⟨r, a, b⟩
/-- what a row that is sound says of a cell: its drum, how many flaps, what it shows, believes, wants -/
theorem cl_f {R W D : Int} {f : Nat → Int64} {c : Nat} (hf : rw_ok R W D f) (hD : 0 < D) (hc : (c : Int) < R * W) : (c < 40 ∧ 0 ≤ c_f f c 0 ∧ c_f f c 0 < D ∧ D ≤ 4) ∧ (2 ≤ d_f f (c_f f c 0).toNat ∧ d_f f (c_f f c 0).toNat ≤ 40) ∧ (0 ≤ c_f f c 1 ∧ c_f f c 1 < d_f f (c_f f c 0).toNat) ∧ (0 ≤ c_f f c 2 ∧ c_f f c 2 < d_f f (c_f f c 0).toNat) ∧ (0 ≤ c_f f c 3 ∧ c_f f c 3 < d_f f (c_f f c 0).toNat) ∧ (0 ≤ c_f f c 4 ∧ c_f f c 4 ≤ 9) := by
  obtain ⟨f0, f1, f3, _, _, g, hd, hcc⟩ := hf
  obtain ⟨a1, _, a3⟩ := hcc c (by omega)
  have a3 := a3 hD
  have a4 := hd (c_f f c 0).toNat (by omega)
  omega
def onI (b g F : Int) : Int := if b ≤ g then g - b else g - b + F
theorem onI_d (b g F : Int) : (b ≤ g ∧ onI b g F = g - b) ∨ (g < b ∧ onI b g F = g - b + F) := by
  unfold onI
  by_cases h : b ≤ g
  · rw [if_pos h]
    exact Or.inl ⟨h, rfl⟩
  · rw [if_neg h]
    exact Or.inr ⟨by omega, rfl⟩
/-- the flap is the nearest good one, or there is none -/
def NR (good : Nat → Prop) (b F : Int) (r : Int32) : Prop := (r = -1 ∧ ∀ g : Nat, (g : Int) < F → ¬ good g) ∨ (0 ≤ r.toInt ∧ r.toInt < F ∧ good r.toInt.toNat ∧ ∀ g : Nat, (g : Int) < F → good g → onI b r.toInt F ≤ onI b (g : Int) F)
theorem NR_u {good : Nat → Prop} {b F : Int} {r q : Int32} (hb : 0 ≤ b ∧ b < F) (h1 : NR good b F r) (h2 : NR good b F q) : r = q := by
  rcases h1 with ⟨a, b1⟩ | ⟨a1, a2, a3, a4⟩
  · rcases h2 with ⟨c, _⟩ | ⟨c1, c2, c3, _⟩
    · rw [a, c]
    · exact absurd c3 (b1 q.toInt.toNat (by omega))
  · rcases h2 with ⟨_, d⟩ | ⟨c1, c2, c3, c4⟩
    · exact absurd a3 (d r.toInt.toNat (by omega))
    · have e1 := a4 q.toInt.toNat (by omega) c3
      have e2 := c4 r.toInt.toNat (by omega) a3
      have k1 : ((q.toInt.toNat : Nat) : Int) = q.toInt := by omega
      have k2 : ((r.toInt.toNat : Nat) : Int) = r.toInt := by omega
      rw [k1] at e1
      rw [k2] at e2
      have o1 := onI_d b r.toInt F
      have o2 := onI_d b q.toInt F
      exact Int32.toInt_inj.mp (by omega)
def gd6 (s : Bd) (d : Nat) (w : Int64) (sg : Int32) (g : Nat) : Prop := s.2.1 2 (40 * d + g) = sg ∧ bs_at w g = false
theorem e0_near_L {s : Bd} {P6 : Int32 → Prop} {d : Nat} {z1 z2 z3 z4 z5 : Int32} {w : Int64} {b : Int} (hd : d < 4) (h4 : 2 ≤ z4.toInt ∧ z4.toInt ≤ 40) (h5 : z5.toInt = 40 * (d : Int)) (hb : 0 ≤ b ∧ b < z4.toInt) : ∀ (n : Nat) (z8 z9 : Int32), 0 ≤ z8.toInt → z8.toInt < z4.toInt → 0 ≤ z9.toInt → z9.toInt ≤ z4.toInt → (z9.toInt < z4.toInt → onI b z8.toInt z4.toInt = z9.toInt) → (∀ g : Nat, (g : Int) < z4.toInt → onI b (g : Int) z4.toInt < z9.toInt → ¬ gd6 s d w z2 g) → wp_X0_nearest_L60 s P6 (fun z1 z2 z3 z4 z5 w6 z8 z9 => P6 (-1)) n z1 z2 z3 z4 z5 (w ^^^ (-1)) z8 z9 → ∃ r, P6 r ∧ NR (gd6 s d w z2) b z4.toInt r := by
  have e1 : (1 : Int32).toInt = 1 := rfl
  have e0 : (0 : Int32).toInt = 0 := rfl
  intro n
  induction n with
  | zero =>
    intro z8 z9 _ _ _ _ _ _ h
    exact (show False from h).elim
  | succ n ih =>
    intro z8 z9 a1 a2 a3 a4 a5 a6 h
    unfold wp_X0_nearest_L60 at h
    by_cases c : z4 ≤ z9
    · have c1 := q_le c
      refine ⟨-1, h.1 c, Or.inl ⟨rfl, fun g hg => a6 g hg ?_⟩⟩
      have := onI_d b (g : Int) z4.toInt
      omega
    · have c1 := q_nle c
      have h := (h.2 c).2
      have a5 := a5 (by omega)
      have s1 := nw (tq_addr e1 z8) (by omega)
      have s2 := nw (tq_addr e1 z9) (by omega)
      have s3 := nw (tq_add z5 z8) (by omega)
      have ex : Int32.toNatClampNeg (z5 + z8) = 40 * d + z8.toInt.toNat := by
        rw [tn_i]
        omega
      rw [ex] at h
      have o8 := onI_d b z8.toInt z4.toInt
      have step : ¬ gd6 s d w z2 z8.toInt.toNat → ((z4 ≤ (z8 + 1) → wp_X0_nearest_L60 s P6 (fun z1 z2 z3 z4 z5 w6 z8 z9 => P6 (-1)) n z1 z2 z3 z4 z5 (w ^^^ (-1)) 0 (z9 + 1)) ∧ (¬ z4 ≤ (z8 + 1) → wp_X0_nearest_L60 s P6 (fun z1 z2 z3 z4 z5 w6 z8 z9 => P6 (-1)) n z1 z2 z3 z4 z5 (w ^^^ (-1)) (z8 + 1) (z9 + 1))) → ∃ r, P6 r ∧ NR (gd6 s d w z2) b z4.toInt r := by
        intro ng h
        have nx : ∀ g : Nat, (g : Int) < z4.toInt → onI b (g : Int) z4.toInt < (z9 + 1).toInt → ¬ gd6 s d w z2 g := fun g hg ho => by
          by_cases q : onI b (g : Int) z4.toInt < z9.toInt
          · exact a6 g hg q
          · have og := onI_d b (g : Int) z4.toInt
            have : g = z8.toInt.toNat := by omega
            rw [this]
            exact ng
        by_cases q : z4 ≤ z8 + 1
        · have q1 := q_le q
          refine ih 0 (z9 + 1) (by omega) (by omega) (by omega) (by omega) (fun g => ?_) nx (h.1 q)
          have := onI_d b (0 : Int32).toInt z4.toInt
          omega
        · have q1 := q_nle q
          refine ih (z8 + 1) (z9 + 1) (by omega) (by omega) (by omega) (by omega) (fun g => ?_) nx (h.2 q)
          have := onI_d b (z8 + 1).toInt z4.toInt
          omega
      by_cases e : s.2.1 2 (40 * d + z8.toInt.toNat) = z2
      · have h := h.2 e
        have bt := bs_wt (w := w ^^^ (-1)) (x := z8) (by omega)
        rw [bs_not (by omega)] at bt
        by_cases f : lg_cmp (((w ^^^ (-1)) >>> (Int32.toInt64 z8 &&& 63)) &&& 1) 0 = 0
        · refine step (fun g => ?_) (h.1 f)
          have := bt.mp f
          rw [g.2] at this
          exact absurd this (by decide)
        · refine ⟨z8, h.2 f, Or.inr ⟨a1, a2, ⟨e, ?_⟩, fun g hg gg => ?_⟩⟩
          · cases q : bs_at w z8.toInt.toNat with
            | false => rfl
            | true =>
              rw [q] at bt
              exact absurd (bt.mpr rfl) f
          · by_cases q : onI b (g : Int) z4.toInt < z9.toInt
            · exact absurd gg (a6 g hg q)
            · omega
      · exact step (fun g => e g.1) (h.1 e)
def gd7 (f : Nat → Int64) (d : Nat) (c : Nat) (sg : Int32) (g : Nat) : Prop := Int64.toInt32 (f (8 + 42 * d + 2 + g)) = sg ∧ bs_at (f (176 + 8 * c + 7)) g = false
theorem e7_near_L {m : Md} {P7 : Int32 → Prop} {z1 z2 : Int32} {F b : Int} {d : Nat} (hx : 0 ≤ z1.toInt ∧ z1.toInt < 40) (hd : d < 4) (e0 : (Int64.toInt32 (m.2.2.1 0 (176 + 8 * z1.toInt.toNat + 0))).toInt = (d : Int)) (eF : (Int64.toInt32 (m.2.2.1 0 (8 + 42 * d + 1))).toInt = F) (hF : 2 ≤ F ∧ F ≤ 40) (eb : (Int64.toInt32 (m.2.2.1 0 (176 + 8 * z1.toInt.toNat + 2))).toInt = b) (hb : 0 ≤ b ∧ b < F) : ∀ (n : Nat) (z3 z4 : Int32), 0 ≤ z4.toInt → z4.toInt ≤ F → ((z3 = -1 ∧ ∀ g : Nat, (g : Int) < z4.toInt → ¬ gd7 (m.2.2.1 0) d z1.toInt.toNat z2 g) ∨ (0 ≤ z3.toInt ∧ z3.toInt < z4.toInt ∧ gd7 (m.2.2.1 0) d z1.toInt.toNat z2 z3.toInt.toNat ∧ ∀ g : Nat, (g : Int) < z4.toInt → gd7 (m.2.2.1 0) d z1.toInt.toNat z2 g → onI b z3.toInt F ≤ onI b (g : Int) F)) → wp_X7_flapFor_L5 m P7 (fun z1 z2 z3 z4 => P7 z3) n z1 z2 z3 z4 → ∃ r, P7 r ∧ NR (gd7 (m.2.2.1 0) d z1.toInt.toNat z2) b F r := by
  have e1 : (1 : Int32).toInt = 1 := rfl
  have m1 : (-1 : Int32).toInt = -1 := rfl
  have dn : (Int64.toInt32 (m.2.2.1 0 (176 + 8 * z1.toInt.toNat + 0))).toInt.toNat = d := by omega
  have fl : ∀ {Q : Int32 → Prop}, wp_X7_flaps Q m z1 → Q (Int64.toInt32 (m.2.2.1 0 (8 + 42 * d + 1))) := by
    intro Q h
    unfold wp_X7_flaps at h
    have h := e7_flapsOf (by omega) (by omega) (e7_of (i := 0) hx.1 hx.2 rfl (by decide) h)
    rw [dn] at h
    exact h
  intro n
  induction n with
  | zero =>
    intro z3 z4 _ _ _ h
    exact (show False from h).elim
  | succ n ih =>
    intro z3 z4 h0 h1 hI h
    unfold wp_X7_flapFor_L5 at h
    have h := fl h
    by_cases c : Int64.toInt32 (m.2.2.1 0 (8 + 42 * d + 1)) ≤ z4
    · have c1 := q_le c
      have ez : z4.toInt = F := by omega
      rw [ez] at hI
      exact ⟨z3, h.1 c, hI⟩
    · have c1 := q_nle c
      have s4 := nw (tq_addr e1 z4) (by omega)
      have h := e7_signOf (by omega) (by omega) h0 (by omega) (e7_of (i := 0) hx.1 hx.2 rfl (by decide) (h.2 c))
      rw [dn] at h
      have on : ¬ gd7 (m.2.2.1 0) d z1.toInt.toNat z2 z4.toInt.toNat → wp_X7_flapFor_L5 m P7 (fun z1 z2 z3 z4 => P7 z3) n z1 z2 z3 (z4 + 1) → ∃ r, P7 r ∧ NR (gd7 (m.2.2.1 0) d z1.toInt.toNat z2) b F r := by
        intro ng h
        refine ih z3 (z4 + 1) (by omega) (by omega) ?_ h
        have up : ∀ g : Nat, (g : Int) < (z4 + 1).toInt → gd7 (m.2.2.1 0) d z1.toInt.toNat z2 g → (g : Int) < z4.toInt := fun g hg gg => by
          by_cases q : (g : Int) < z4.toInt
          · exact q
          · have : g = z4.toInt.toNat := by omega
            rw [this] at gg
            exact absurd gg ng
        rcases hI with ⟨a, b1⟩ | ⟨a1, a2, a3, a4⟩
        · exact Or.inl ⟨a, fun g hg gg => b1 g (up g hg gg) gg⟩
        · exact Or.inr ⟨a1, by omega, a3, fun g hg gg => a4 g (up g hg gg) gg⟩
      by_cases e : Int64.toInt32 (m.2.2.1 0 (8 + 42 * d + 2 + z4.toInt.toNat)) = z2
      · have h := e7_isIn (by omega) (e7_wornOf hx.1 hx.2 (h.2 e))
        rcases h with ⟨h, w⟩ | ⟨h, w⟩
        · refine on (fun g => ?_) (h.2 (by decide))
          rw [g.2] at w
          exact absurd w (by decide)
        · have h := h.1 rfl
          have gg : gd7 (m.2.2.1 0) d z1.toInt.toNat z2 z4.toInt.toNat := ⟨e, w⟩
          have k4 : ((z4.toInt.toNat : Nat) : Int) = z4.toInt := by omega
          by_cases q : z3 = -1
          · refine ih z4 (z4 + 1) (by omega) (by omega) (Or.inr ⟨h0, by omega, gg, fun g hg g2 => ?_⟩) (h.1 q)
            rcases hI with ⟨a, b1⟩ | ⟨a1, _⟩
            · by_cases v : (g : Int) < z4.toInt
              · exact absurd g2 (b1 g v)
              · have : (g : Int) = z4.toInt := by omega
                rw [this]
                exact Int.le_refl _
            · rw [q] at a1
              omega
          · rcases hI with ⟨a, _⟩ | ⟨a1, a2, a3, a4⟩
            · exact absurd a q
            · have h := fl (e7_of (i := 2) hx.1 hx.2 rfl (by decide) (h.2 q))
              obtain ⟨r19, h, o19⟩ := e7_on (by omega) (by omega) (by omega) h
              have h := fl (e7_of (i := 2) hx.1 hx.2 rfl (by decide) h)
              obtain ⟨r25, h, o25⟩ := e7_on (by omega) (by omega) (by omega) h
              have u4 := onI_d b z4.toInt F
              have u3 := onI_d b z3.toInt F
              by_cases v : r25 ≤ r19
              · have v1 := q_le v
                refine ih z3 (z4 + 1) (by omega) (by omega) (Or.inr ⟨a1, by omega, a3, fun g hg g2 => ?_⟩) (h.1 v)
                by_cases y : (g : Int) < z4.toInt
                · exact a4 g y g2
                · have : (g : Int) = z4.toInt := by omega
                  rw [this]
                  omega
              · have v1 := q_nle v
                refine ih z4 (z4 + 1) (by omega) (by omega) (Or.inr ⟨h0, by omega, gg, fun g hg g2 => ?_⟩) (h.2 v)
                by_cases y : (g : Int) < z4.toInt
                · have := a4 g y g2
                  omega
                · have : (g : Int) = z4.toInt := by omega
                  rw [this]
                  exact Int.le_refl _
      · exact on (fun g => e g.1) (h.1 e)
/-- which flap a cell would want for a sign, by the row f -/
def NV (f : Nat → Int64) (c : Nat) (sg : Int32) (r : Int32) : Prop := NR (gd7 f (c_f f c 0).toNat c sg) (c_f f c 2) (d_f f (c_f f c 0).toNat) r
theorem NV_u {R W D : Int} {f : Nat → Int64} {c : Nat} {sg r q : Int32} (hf : rw_ok R W D f) (hD : 0 < D) (hc : (c : Int) < R * W) (h1 : NV f c sg r) (h2 : NV f c sg q) : r = q := by
  obtain ⟨q0, q1, q2, q3, q4, q5⟩ := cl_f hf hD hc
  exact NR_u q3 h1 h2
theorem NV_b {f : Nat → Int64} {c : Nat} {sg r : Int32} (h : NV f c sg r) : r = -1 ∨ (¬ r = -1 ∧ 0 ≤ r.toInt ∧ r.toInt < d_f f (c_f f c 0).toNat) := by
  rcases h with ⟨a, _⟩ | ⟨a1, a2, _⟩
  · exact Or.inl a
  · refine Or.inr ⟨fun g => ?_, a1, a2⟩
    rw [g] at a1
    exact absurd a1 (by decide)
/-- drums of the class as in the row -/
def RDr (s : Bd) (f : Nat → Int64) : Prop := s.1 3 = Int64.toInt32 (f 3) ∧ ((f 3).toInt ≤ 4 ∧ ((f 0).toInt ≤ 0 ∨ 0 < (f 1).toInt)) ∧ ∀ d : Nat, (d : Int) < (f 3).toInt → DG f d ∧ s.2.1 0 d = Int64.toInt32 (f (8 + 42 * d)) ∧ s.2.1 1 d = Int64.toInt32 (f (8 + 42 * d + 1)) ∧ ∀ k : Nat, (k : Int) < d_f f d → s.2.1 2 (40 * d + k) = Int64.toInt32 (f (8 + 42 * d + 2 + k))
theorem RB_d {s : Bd} {f : Nat → Int64} (h : RB s f) : RDr s f := ⟨h.1.2.2.2, h.2.1⟩
theorem near6 {P6 : Int32 → Prop} {s : Bd} {f : Nat → Int64} {x sg : Int32} {R W D : Int} (hf : rw_ok R W D f) (hD : 0 < D) (hB : RDr s f) (hx : 0 ≤ x.toInt) (hc : x.toInt < R * W) (x3 : s.2.1 3 x.toInt.toNat = Int64.toInt32 (f (176 + 8 * x.toInt.toNat + 0))) (x5 : s.2.1 5 x.toInt.toNat = Int64.toInt32 (f (176 + 8 * x.toInt.toNat + 2))) (c2 : s.2.2.1 x.toInt.toNat = f (176 + 8 * x.toInt.toNat + 7)) (h6 : wp_X0_nearest P6 s x sg) : ∃ r, P6 r ∧ NV f x.toInt.toNat sg r := by
  have k1 : ((x.toInt.toNat : Nat) : Int) = x.toInt := by omega
  obtain ⟨q0, q1, q2, q3, q4, q5⟩ := cl_f hf hD (c := x.toInt.toNat) (by omega)
  unfold NV
  have tx : Int32.toNatClampNeg x = x.toInt.toNat := rfl
  generalize x.toInt.toNat = c at *
  obtain ⟨b0, b00, b1⟩ := hB
  have f3 := hf.2.2.1
  generalize hdn : (c_f f c 0).toNat = d at *
  obtain ⟨_, d0, d1, d2⟩ := b1 d (by omega)
  have t0 : (Int64.toInt32 (f (176 + 8 * c + 0))).toInt = (d : Int) := by
    rw [t32 (by unfold c_f at q0; omega)]
    unfold c_f at hdn q0
    omega
  have tF : (Int64.toInt32 (f (8 + 42 * d + 1))).toInt = d_f f d := by
    rw [t32 (by unfold d_f at q1; omega)]
    rfl
  have tb : (Int64.toInt32 (f (176 + 8 * c + 2))).toInt = c_f f c 2 := by
    rw [t32 (by unfold c_f at q3; omega)]
    rfl
  have e0 : (0 : Int32).toInt = 0 := rfl
  have e40 : (40 : Int32).toInt = 40 := rfl
  unfold wp_X0_nearest at h6
  rw [tx, x3, x5, c2, b0] at h6
  have t3 : (Int64.toInt32 (f 3)).toInt = D := by
    rw [t32 (by omega)]
    exact f3
  have h6 := h6.2.2 (fun g => by have := q_lt g; omega)
  have h6 := (h6.2 (fun g => by have := q_le g; omega)).2.2.2
  obtain ⟨n6, h6⟩ := h6
  have td : Int32.toNatClampNeg (Int64.toInt32 (f (176 + 8 * c + 0))) = d := by
    rw [tn_i]
    omega
  rw [td, d1] at h6
  have g5 := nw (tq_mulr e40 (Int64.toInt32 (f (176 + 8 * c + 0)))) (by omega)
  obtain ⟨r6, p6, n6⟩ := e0_near_L (d := d) (b := c_f f c 2) (by omega) (by omega) (by omega) (by omega) n6 _ 0 (by omega) (by omega) (by omega) (by omega) (fun _ => by
    have := onI_d (c_f f c 2) (Int64.toInt32 (f (176 + 8 * c + 2))).toInt (Int64.toInt32 (f (8 + 42 * d + 1))).toInt
    omega) (fun g hg ho => by
    have := onI_d (c_f f c 2) (g : Int) (Int64.toInt32 (f (8 + 42 * d + 1))).toInt
    omega) h6
  have same : ∀ g : Nat, (g : Int) < d_f f d → (gd6 s d (f (176 + 8 * c + 7)) sg g ↔ gd7 f d c sg g) := fun g hg => by
    unfold gd6 gd7
    rw [d2 g hg]
  rw [tF] at n6
  refine ⟨r6, p6, ?_⟩
  rcases n6 with ⟨a, b⟩ | ⟨a1, a2, a3, a4⟩
  · exact Or.inl ⟨a, fun g hg gg => b g hg ((same g hg).mpr gg)⟩
  · exact Or.inr ⟨a1, a2, (same _ (by omega)).mp a3, fun g hg gg => a4 g hg ((same g hg).mpr gg)⟩
/-- the rows f and g have the same drums, and of this cell the same drum, belief, worn flaps -/
def RS (f g : Nat → Int64) (c : Nat) : Prop := (∀ i : Nat, i < 176 → g i = f i) ∧ g (176 + 8 * c + 0) = f (176 + 8 * c + 0) ∧ g (176 + 8 * c + 2) = f (176 + 8 * c + 2) ∧ g (176 + 8 * c + 7) = f (176 + 8 * c + 7)
theorem RS_rf (f : Nat → Int64) (c : Nat) : RS f f c := ⟨fun _ _ => rfl, rfl, rfl, rfl⟩
theorem near7 {P7 : Int32 → Prop} {m : Md} {f : Nat → Int64} {x sg : Int32} {R W D : Int} (hf : rw_ok R W D f) (hD : 0 < D) (hS : RS f (m.2.2.1 0) x.toInt.toNat) (hx : 0 ≤ x.toInt) (hc : x.toInt < R * W) (h7 : wp_X7_flapFor P7 m x sg) : ∃ r, P7 r ∧ NV f x.toInt.toNat sg r := by
  have k1 : ((x.toInt.toNat : Nat) : Int) = x.toInt := by omega
  obtain ⟨q0, q1, q2, q3, q4, q5⟩ := cl_f hf hD (c := x.toInt.toNat) (by omega)
  unfold NV
  generalize hdn : (c_f f x.toInt.toNat 0).toNat = d at *
  have t0 : (Int64.toInt32 (m.2.2.1 0 (176 + 8 * x.toInt.toNat + 0))).toInt = (d : Int) := by
    rw [hS.2.1, t32 (by unfold c_f at q0; omega)]
    unfold c_f at hdn q0
    omega
  have tF : (Int64.toInt32 (m.2.2.1 0 (8 + 42 * d + 1))).toInt = d_f f d := by
    rw [hS.1 _ (by omega), t32 (by unfold d_f at q1; omega)]
    rfl
  have tb : (Int64.toInt32 (m.2.2.1 0 (176 + 8 * x.toInt.toNat + 2))).toInt = c_f f x.toInt.toNat 2 := by
    rw [hS.2.2.1, t32 (by unfold c_f at q3; omega)]
    rfl
  have e0 : (0 : Int32).toInt = 0 := rfl
  unfold wp_X7_flapFor at h7
  obtain ⟨n7, h7⟩ := h7
  obtain ⟨r7, p7, n7⟩ := e7_near_L (b := c_f f x.toInt.toNat 2) (by omega) (by omega) t0 tF (by omega) tb (by omega) n7 (-1) 0 (by omega) (by omega) (Or.inl ⟨rfl, fun g hg => by omega⟩) h7
  have same : ∀ g : Nat, (g : Int) < d_f f d → (gd7 (m.2.2.1 0) d x.toInt.toNat sg g ↔ gd7 f d x.toInt.toNat sg g) := fun g hg => by
    unfold gd7
    rw [hS.1 _ (by omega), hS.2.2.2]
  refine ⟨r7, p7, ?_⟩
  rcases n7 with ⟨a, b⟩ | ⟨a1, a2, a3, a4⟩
  · exact Or.inl ⟨a, fun g hg gg => b g hg ((same g hg).mpr gg)⟩
  · exact Or.inr ⟨a1, a2, (same _ (by omega)).mp a3, fun g hg gg => a4 g hg ((same g hg).mpr gg)⟩

/-! The parts of a board's text. -/
theorem dt_conj {O : Type} {F : (O → Prop) → Prop} (h : dt F F) {P Q : O → Prop} (a : F P) (b : F Q) : F (fun o => P o ∧ Q o) := by
  obtain ⟨o, p, w, d⟩ := h P a
  exact w _ ⟨p, d Q b⟩
/-- only the row that is now has changed -/
def FN (s u : Md) : Prop := u.1 = s.1 ∧ u.2.1 = s.2.1 ∧ (∀ k, ¬ k = 0 → u.2.2.1 k = s.2.2.1 k) ∧ u.2.2.2 = s.2.2.2
theorem FN_rf (s : Md) : FN s s := ⟨rfl, rfl, fun _ _ => rfl, rfl⟩
theorem FN_tr {s u v : Md} (a : FN s u) (b : FN u v) : FN s v := ⟨b.1.trans a.1, b.2.1.trans a.2.1, fun k h => (b.2.2.1 k h).trans (a.2.2.1 k h), b.2.2.2.trans a.2.2.2⟩
theorem FN_up (s : Md) (f : Nat → Int64) : FN s (s.1, s.2.1, (va_up s.2.2.1 0 f), s.2.2.2) := ⟨rfl, rfl, fun k h => by
  show (if k = 0 then f else s.2.2.1 k) = _
  rw [if_neg h], rfl⟩
theorem RT_fn {t : Tp} {s u : Md} (h : RT t s) (f : FN s u) : RT t u := by
  unfold RT RX
  rw [f.1, f.2.2.2]
  exact h
theorem e7_sets {P : Md → Prop} {s : Md} {x j : Int32} {y : Int64} {i : Nat} (h0 : 0 ≤ x.toInt) (h1 : x.toInt < 40) (hj : j.toInt = (i : Int)) (hi : i < 8) (h : wp_X7_sets P s x j y) : ∃ u, P u ∧ FN s u ∧ u.2.2.1 0 = vp_updL (s.2.2.1 0) (176 + 8 * x.toInt.toNat + i) y := by
  unfold wp_X7_sets at h
  have h := h.2
  rw [ixc h0 h1 (by omega) (by omega), show j.toInt.toNat = i by omega] at h
  exact ⟨_, h, FN_up s _, rfl⟩
theorem uL_n {f : Nat → Int64} {k i : Nat} {y : Int64} (h : ¬ i = k) : vp_updL f k y i = f i := by
  unfold vp_updL
  rw [if_neg h]
theorem uL_e {f : Nat → Int64} {k : Nat} {y : Int64} : vp_updL f k y k = y := by
  unfold vp_updL
  rw [if_pos rfl]
theorem up_n {f : Nat → Int32} {k i : Nat} {y : Int32} (h : ¬ i = k) : upd f k y i = f i := by
  unfold upd
  rw [if_neg h]
theorem up_e {f : Nat → Int32} {k : Nat} {y : Int32} : upd f k y k = y := by
  unfold upd
  rw [if_pos rfl]
theorem t32_64 (x : Int32) : Int64.toInt32 (Int32.toInt64 x) = x := Int32.toInt_inj.mp (by
  have := tq_r x
  rw [t32 (by rw [tq_64]; omega), tq_64])
theorem RB_c {s u : Bd} {f g : Nat → Int64} {c : Nat} (h : RB s f) (h1 : u.1 = s.1) (h0 : u.2.1 0 = s.2.1 0 ∧ u.2.1 1 = s.2.1 1 ∧ u.2.1 2 = s.2.1 2) (hc : ∀ j : Nat, j < 7 → ∀ i, ¬ i = c → u.2.1 (3 + j) i = s.2.1 (3 + j) i) (hw : ∀ i, ¬ i = c → u.2.2.1 i = s.2.2.1 i) (hg : ∀ i, (i < 176 + 8 * c ∨ 176 + 8 * c + 8 ≤ i) → g i = f i) (hj : (∀ j : Nat, j < 7 → u.2.1 (3 + j) c = Int64.toInt32 (g (176 + 8 * c + j))) ∧ u.2.2.1 c = g (176 + 8 * c + 7) ∧ bs_at (g (176 + 8 * c + 7)) 0 = false) : RB u g := by
  obtain ⟨a, b, d⟩ := h
  have g0 : g 0 = f 0 := hg 0 (Or.inl (by omega))
  have g1 : g 1 = f 1 := hg 1 (Or.inl (by omega))
  have g2 : g 2 = f 2 := hg 2 (Or.inl (by omega))
  have g3 : g 3 = f 3 := hg 3 (Or.inl (by omega))
  refine ⟨by rw [h1, g0, g1, g2, g3]; exact a, ⟨by rw [g3, g0, g1]; exact b.1, fun e he => ?_⟩, fun i hi => ?_⟩
  · rw [g3] at he
    have b0 := b.1
    obtain ⟨b4, b1, b2, b3⟩ := b.2 e he
    have b40 := b4.1
    have ed : d_f g e = d_f f e := by
      unfold d_f
      rw [hg _ (Or.inl (by omega))]
    rw [h0.1, h0.2.1, h0.2.2, ed, hg (8 + 42 * e) (Or.inl (by omega)), hg (8 + 42 * e + 1) (Or.inl (by omega))]
    refine ⟨DG_k b4 (fun i h1 h2 => hg i (Or.inl (by omega))), b1, b2, fun k hk => ?_⟩
    rw [hg _ (Or.inl (by omega))]
    exact b3 k hk
  · rw [g0, g1] at hi
    by_cases q : i = c
    · rw [q]
      exact hj
    · obtain ⟨d1, d2⟩ := d i hi
      refine ⟨fun j hj => ?_, ?_⟩
      · rw [hc j hj i q, hg _ (by omega)]
        exact d1 j hj
      · rw [hw i q, hg _ (by omega)]
        exact d2
/-! a drum -/
theorem e0_addDrum_L {t : Tp} {p6 : Bd → Prop} {e6 : Bd → Int32 → Int32 → Int32 → Int32 → Prop} {z1 q n0 : Int32} {d : Nat} (hd : d < 4) (hn : 0 ≤ n0.toInt ∧ n0.toInt ≤ 40) (hq : 0 ≤ q.toInt ∧ q.toInt ≤ 400) : ∀ (n : Nat) (s : Bd) (z : Int32), (s.1 3).toInt = (d : Int) → 0 ≤ z.toInt → z.toInt ≤ n0.toInt → wp_X0_addDrum_L40 t p6 e6 n s z1 q n0 z → ∃ u z', e6 u z1 q n0 z' ∧ u.1 = s.1 ∧ (∀ j, ¬ j = 2 → u.2.1 j = s.2.1 j) ∧ u.2.2 = s.2.2 ∧ (∀ i : Nat, i < 40 * d + z.toInt.toNat → u.2.1 2 i = s.2.1 2 i) ∧ (∀ k : Nat, z.toInt ≤ (k : Int) → (k : Int) < n0.toInt → u.2.1 2 (40 * d + k) = tb5 t (q + nI k)) := by
  have e1 : (1 : Int32).toInt = 1 := rfl
  have e40 : (40 : Int32).toInt = 40 := rfl
  intro n
  induction n with
  | zero =>
    intro s z _ _ _ h
    exact (show False from h).elim
  | succ n ih =>
    intro s z h3 h0 h1 h
    unfold wp_X0_addDrum_L40 at h
    by_cases c : n0 ≤ z
    · have := q_le c
      exact ⟨s, z, h.1 c, rfl, fun _ _ => rfl, rfl, fun _ _ => rfl, fun k g1 g2 => by omega⟩
    · have c1 := q_nle c
      have a1 := nw (tq_add q z) (by omega)
      have a2 := nw (tq_addr e1 z) (by omega)
      have a3 := nw (tq_mulr e40 (s.1 3)) (by omega)
      have a4 := nw (tq_add ((s.1 3) * 40) z) (by omega)
      have h := (e5_byteAt (by omega) (h.2 c)).2
      have ix : Int32.toNatClampNeg (((s.1 3) * 40) + z) = 40 * d + z.toInt.toNat := by
        rw [tn_i]
        omega
      rw [ix] at h
      obtain ⟨u, z', b1, b2, b3, b4, b5, b6⟩ := ih (s.1, (va_up s.2.1 2 (upd (s.2.1 2) (40 * d + z.toInt.toNat) (tb5 t (q + z)))), s.2.2.1, s.2.2.2.1, s.2.2.2.2) (z + 1) h3 (by omega) (by omega) h
      refine ⟨u, z', b1, b2, fun j hj => ?_, b4, fun i hi => ?_, fun k g1 g2 => ?_⟩
      · rw [b3 j hj]
        show (if j = 2 then _ else s.2.1 j) = _
        rw [if_neg hj]
      · rw [b5 i (by omega)]
        show upd (s.2.1 2) (40 * d + z.toInt.toNat) (tb5 t (q + z)) i = _
        exact up_n (by omega)
      · by_cases g : (k : Int) = z.toInt
        · have ek : k = z.toInt.toNat := by omega
          rw [b5 _ (by omega), ek, nI_tn h0]
          show upd (s.2.1 2) (40 * d + z.toInt.toNat) (tb5 t (q + z)) (40 * d + z.toInt.toNat) = _
          exact up_e
        · exact b6 k (by omega) g2
theorem e7_drum_L {p7 : Int32 → Md → Prop} {e7 : Md → Int32 → Int32 → Int32 → Prop} {z1 z2 q n0 : Int32} {d : Nat} (hd : d < 4) (hz : z2.toInt = 8 + 42 * (d : Int)) (hn : 0 ≤ n0.toInt ∧ n0.toInt ≤ 40) (hq : 0 ≤ q.toInt ∧ q.toInt + n0.toInt ≤ 400) : ∀ (n : Nat) (s : Md) (z : Int32), s.1 10 = q → s.1 11 = n0 → 0 ≤ z.toInt → z.toInt ≤ n0.toInt → wp_X7_readsDrum_L91 p7 e7 n s z1 z2 z → ∃ u z', e7 u z1 z2 z' ∧ FN s u ∧ (∀ i : Nat, (i < 8 + 42 * d + 2 + z.toInt.toNat ∨ 8 + 42 * d + 2 + n0.toInt.toNat ≤ i) → u.2.2.1 0 i = s.2.2.1 0 i) ∧ (∀ k : Nat, z.toInt ≤ (k : Int) → (k : Int) < n0.toInt → u.2.2.1 0 (8 + 42 * d + 2 + k) = Int32.toInt64 (s.2.2.2 2 (Int32.toNatClampNeg (q + nI k)))) := by
  have e1 : (1 : Int32).toInt = 1 := rfl
  have e2 : (2 : Int32).toInt = 2 := rfl
  intro n
  induction n with
  | zero =>
    intro s z _ _ _ _ h
    exact (show False from h).elim
  | succ n ih =>
    intro s z hq1 hn1 h0 h1 h
    unfold wp_X7_readsDrum_L91 at h
    rw [hq1, hn1] at h
    by_cases c : n0 ≤ z
    · have := q_le c
      exact ⟨s, z, h.1 c, FN_rf s, fun _ _ => rfl, fun k g1 g2 => by omega⟩
    · have c1 := q_nle c
      have a2 := nw (tq_addr e1 z) (by omega)
      have a3 := nw (tq_addr e2 z2) (by omega)
      have a4 := nw (tq_add (z2 + 2) z) (by omega)
      have h := (h.2 c).2.2
      have ix : Int32.toNatClampNeg ((z2 + 2) + z) = 8 + 42 * d + 2 + z.toInt.toNat := by
        rw [tn_i]
        omega
      rw [ix] at h
      obtain ⟨u, z', b1, b2, b3, b4⟩ := ih (s.1, s.2.1, (va_up s.2.2.1 0 (vp_updL (s.2.2.1 0) (8 + 42 * d + 2 + z.toInt.toNat) (Int32.toInt64 (s.2.2.2 2 (Int32.toNatClampNeg (q + z)))))), s.2.2.2) (z + 1) hq1 hn1 (by omega) (by omega) h
      refine ⟨u, z', b1, FN_tr (FN_up s _) b2, fun i hi => ?_, fun k g1 g2 => ?_⟩
      · rw [b3 i (by omega)]
        show vp_updL (s.2.2.1 0) (8 + 42 * d + 2 + z.toInt.toNat) _ i = _
        exact uL_n (by omega)
      · by_cases g : (k : Int) = z.toInt
        · have ek : k = z.toInt.toNat := by omega
          rw [b3 _ (by omega), ek, nI_tn h0]
          show vp_updL (s.2.2.1 0) (8 + 42 * d + 2 + z.toInt.toNat) _ (8 + 42 * d + 2 + z.toInt.toNat) = _
          exact uL_e
        · exact b4 k (by omega) g2
/-- a byte that is a sign is the same with and without its sign bit -/
theorem by_s {a : Int32} (h1 : -128 ≤ a.toInt) (h2 : a.toInt ≤ 127) (h3 : (a &&& 255).toInt ≤ 127) : a &&& 255 = a := by
  have e : (a &&& 255).toBitVec.toNat = a.toBitVec.toNat % 256 := by
    rw [Int32.toBitVec_and, BitVec.toNat_and, show (255 : Int32).toBitVec.toNat = 2 ^ 8 - 1 from by decide]
    exact Nat.and_two_pow_sub_one_eq_mod _ 8
  have t1 : (a &&& 255).toInt = ((a &&& 255).toBitVec.toNat : Int) := by
    show (a &&& 255).toBitVec.toInt = _
    rw [BitVec.toInt_eq_toNat_of_lt (by rw [e]; omega)]
  have t2 : a.toInt = if 2 * a.toBitVec.toNat < 2 ^ 32 then (a.toBitVec.toNat : Int) else (a.toBitVec.toNat : Int) - ((2 ^ 32 : Nat) : Int) := BitVec.toInt_eq_toNat_cond _
  have l : a.toBitVec.toNat < 2 ^ 32 := a.toBitVec.isLt
  refine Int32.toInt_inj.mp ?_
  rw [t1, e]
  rw [t1, e] at h3
  by_cases c : 2 * a.toBitVec.toNat < 2 ^ 32
  · rw [if_pos c] at t2
    omega
  · rw [if_neg c] at t2
    omega
theorem tb_sg {t : Tp} {s : Md} {q n : Int32} (hx : RX t s) (hs : SG s q n) (hq : 0 ≤ q.toInt) (hn : q.toInt + n.toInt ≤ (s.1 5).toInt) {k : Nat} (hk : (k : Int) < n.toInt) : tb7 s (q + nI k) = s.2.2.2 2 (Int32.toNatClampNeg (q + nI k)) := by
  have g := hs k hk
  have b := hx.2.2
  have e : (q + nI k).toInt = q.toInt + (k : Int) := qk hq (by omega) (by omega)
  unfold tb7 at g ⊢
  have c : ¬ s.1 5 ≤ q + nI k := fun c => by
    have := q_le c
    omega
  rw [if_neg c] at g ⊢
  have r := b.2.2 (Int32.toNatClampNeg (q + nI k))
  exact by_s r.1 r.2 (by omega)
theorem rows_e {P : Int32 → Prop} {s : Md} (h : wp_X7_rows P s) : P (Int64.toInt32 (s.2.2.1 0 0)) := by
  unfold wp_X7_rows at h
  exact h
theorem wide_e {P : Int32 → Prop} {s : Md} (h : wp_X7_wide P s) : P (Int64.toInt32 (s.2.2.1 0 1)) := by
  unfold wp_X7_wide at h
  exact h
theorem drums_e {P : Int32 → Prop} {s : Md} (h : wp_X7_drums P s) : P (Int64.toInt32 (s.2.2.1 0 3)) := by
  unfold wp_X7_drums at h
  exact h
theorem cells7_e {P : Int32 → Prop} {s : Md} (h : wp_X7_cells P s) : P (Int64.toInt32 (s.2.2.1 0 0) * Int64.toInt32 (s.2.2.1 0 1)) := by
  unfold wp_X7_cells at h
  exact wide_e (rows_e h)
theorem cells6_e {P : Int32 → Prop} {s : Bd} (h : wp_X0_cells P s) : P (s.1 0 * s.1 1) := by
  unfold wp_X0_cells at h
  exact h
/-- numbers of a row that is sound -/
theorem rw_n {R W D : Int} {f : Nat → Int64} (h : rw_ok R W D f) : (Int64.toInt32 (f 0)).toInt = R ∧ (Int64.toInt32 (f 1)).toInt = W ∧ (Int64.toInt32 (f 3)).toInt = D ∧ (Int64.toInt32 (f 0) * Int64.toInt32 (f 1)).toInt = R * W ∧ (0 ≤ R ∧ R ≤ 6 ∧ 0 ≤ W ∧ W ≤ 10 ∧ 0 ≤ R * W ∧ R * W ≤ 40 ∧ 0 ≤ D ∧ D ≤ 4) := by
  obtain ⟨a, b, c, _, _, g, _⟩ := h
  have e0 : (Int64.toInt32 (f 0)).toInt = R := by rw [t32 (by omega)]; exact a
  have e1 : (Int64.toInt32 (f 1)).toInt = W := by rw [t32 (by omega)]; exact b
  have e3 : (Int64.toInt32 (f 3)).toInt = D := by rw [t32 (by omega)]; exact c
  refine ⟨e0, e1, e3, ?_, by omega⟩
  have m := tq_mul (Int64.toInt32 (f 0)) (Int64.toInt32 (f 1))
  rw [e0, e1] at m
  exact nw m (by omega)
/-- behind a word: the class stands behind it, the reference steps over it -/
theorem RT_word {r : Int32} {u : Tp} {v : Md} {i : Nat} {x : Int32} (hi : i < 12) (hc : CW r u v) (hw : wd_y v i) (hx : x = nI (st_len.getD i 0)) : RT u ((va_up v.1 6 ((v.1 6) + x)), v.2.1, v.2.2.1, v.2.2.2) := by
  obtain ⟨c1, c2, c3, c4, c5, c6, c7, c8⟩ := hc
  obtain ⟨g1, g2⟩ := c8 i hi hw
  have bb := c1.2.2
  have l := lnn i
  have ll : ln i = ((st_len.getD i 0 : Nat) : Int) := rfl
  have k := qk (q := v.1 6) (k := st_len.getD i 0) (by omega) (by omega) (by omega)
  refine ⟨c1, ?_, ?_, ?_, c5⟩
  · show u.1 1 = v.1 6 + x
    rw [hx]
    exact g1
  · show 0 ≤ (v.1 6 + x).toInt
    rw [hx]
    omega
  · show (v.1 6 + x).toInt ≤ (v.1 5).toInt
    rw [hx]
    omega
theorem va_n {α : Type} {f : Nat → α} {k i : Nat} {y : α} (h : ¬ i = k) : va_up f k y i = f i := by
  unfold va_up
  rw [if_neg h]
theorem RB_drum {b w : Bd} {f g : Nat → Int64} {d : Nat} {cur n0 : Int32} (hB : RB b f) (h3 : (f 3).toInt = (d : Int)) (hd : d < 4) (hcur : 1 ≤ cur.toInt ∧ cur.toInt ≤ 9) (hn : 0 ≤ n0.toInt ∧ n0.toInt ≤ 40) (w1 : w.1 = va_up b.1 3 (b.1 3 + 1)) (w0 : w.2.1 0 = upd (b.2.1 0) d cur) (wz : w.2.1 1 = upd (b.2.1 1) d n0) (ws : ∀ i, i < 40 * d → w.2.1 2 i = b.2.1 2 i) (wj : ∀ j, 3 ≤ j → w.2.1 j = b.2.1 j) (w2 : w.2.2.1 = b.2.2.1) (g3 : g 3 = f 3 + 1) (gi : ∀ i, ¬ i = 3 → (i < 8 + 42 * d ∨ 176 ≤ i) → g i = f i) (gc : g (8 + 42 * d) = Int32.toInt64 cur) (gn : g (8 + 42 * d + 1) = Int32.toInt64 n0) (gs : ∀ k : Nat, (k : Int) < n0.toInt → w.2.1 2 (40 * d + k) = Int64.toInt32 (g (8 + 42 * d + 2 + k))) (gr : ∀ k : Nat, (k : Int) < n0.toInt → 32 ≤ (g (8 + 42 * d + 2 + k)).toInt ∧ (g (8 + 42 * d + 2 + k)).toInt ≤ 126) : RB w g := by
  obtain ⟨⟨a0, a1, a2, a3⟩, ⟨b0, b1⟩, c0⟩ := hB
  have e1 : (1 : Int64).toInt = 1 := rfl
  have j1 : (1 : Int32).toInt = 1 := rfl
  have t3 : (g 3).toInt = (d : Int) + 1 := by
    have e : (2 ^ 64 : Nat) = 18446744073709551616 := by decide
    rw [g3, Int64.toInt_add, e1, h3, e]
    unfold Int.bmod
    dsimp only
    split <;> omega
  have w3 : w.1 3 = Int64.toInt32 (g 3) := Int32.toInt_inj.mp (by
    have u3 : (b.1 3).toInt = (d : Int) := by rw [a3, t32 (by omega), h3]
    rw [w1, t32 (by omega), t3]
    show (b.1 3 + 1).toInt = _
    rw [nw (tq_addr j1 (b.1 3)) (by omega), u3])
  have g0 : g 0 = f 0 := gi 0 (by decide) (Or.inl (by omega))
  have g1 : g 1 = f 1 := gi 1 (by decide) (Or.inl (by omega))
  have g2 : g 2 = f 2 := gi 2 (by decide) (Or.inl (by omega))
  refine ⟨⟨?_, ?_, ?_, w3⟩, ⟨⟨by omega, by rw [g0, g1]; exact b0.2⟩, fun e he => ?_⟩, fun c hc => ?_⟩
  · rw [w1, g0]
    exact a0
  · rw [w1, g1]
    exact a1
  · rw [w1, g2]
    exact a2
  · by_cases q : e = d
    · subst q
      have dg : d_f g e = n0.toInt := by
        unfold d_f
        rw [gn, tq_64]
      have dgg : DG g e := ⟨by rw [dg]; exact hn.2, by rw [gc, tq_64]; exact hcur.1, by rw [gc, tq_64]; exact hcur.2, fun k hk => gr k (by rw [dg] at hk; exact hk)⟩
      rw [dg, w0, wz, gc, gn, up_e, up_e, t32_64, t32_64]
      exact ⟨dgg, rfl, rfl, fun k hk => gs k hk⟩
    · have he2 : e < d := by omega
      obtain ⟨x0, x1, x2, x3⟩ := b1 e (by omega)
      have dg : d_f g e = d_f f e := by
        unfold d_f
        rw [gi _ (by omega) (Or.inl (by omega))]
      rw [dg, w0, wz, up_n q, up_n q, gi _ (by omega) (Or.inl (by omega)), gi (8 + 42 * e + 1) (by omega) (Or.inl (by omega))]
      have x00 := x0.1
      refine ⟨DG_k x0 (fun i h1 h2 => gi i (by omega) (Or.inl (by omega))), x1, x2, fun k hk => ?_⟩
      rw [ws _ (by omega), gi _ (by omega) (Or.inl (by omega))]
      exact x3 k hk
  · rw [g0, g1] at hc
    obtain ⟨x0, x1⟩ := c0 c hc
    refine ⟨fun j hj => ?_, ?_⟩
    · rw [wj _ (by omega), gi _ (by omega) (Or.inr (by omega))]
      exact x0 j hj
    · rw [w2, gi _ (by omega) (Or.inr (by omega))]
      exact x1
/-- what a part's reading ends in: all is well beside each other, or the same fault -/
def OUT (b : Bd) (t : Tp) (r : Int32) (v : Md) : Prop := (r = 1 ∧ RT t v ∧ RB b (v.2.2.1 0)) ∨ (r = 0 ∧ FL t v)
/-! faults stay -/
theorem fa_num {P : Int32 → Tp → Prop} {t : Tp} {lo hi : Int32} {v : Md} (hf : FL t v) (h : wp_X5_takeNumber P t lo hi) : ∃ r u, P r u ∧ FL u v := by
  obtain ⟨⟨r, u⟩, a, b⟩ := fq_X5_takeNumber t lo hi hf.2 rfl (fun x => P x.1 x.2) h
  have b : u.1 5 = t.1 5 := b
  exact ⟨r, u, a, b.trans hf.1, fun g => hf.2 (b.symm.trans g)⟩
theorem fa_quo {P : Tp → Prop} {t : Tp} {lo hi : Int32} {v : Md} (hf : FL t v) (h : wp_X5_takeQuoted P t lo hi) : ∃ u, P u ∧ FL u v := by
  obtain ⟨u, a, b⟩ := fq_X5_takeQuoted t lo hi hf.2 rfl P h
  have b : u.1 5 = t.1 5 := b
  exact ⟨u, a, b.trans hf.1, fun g => hf.2 (b.symm.trans g)⟩
theorem fa_word {P : Tp → Prop} {t : Tp} {x : Int32} {v : Md} (hf : FL t v) (h : wp_X5_takeThisWord P t x) : ∃ u, P u ∧ FL u v := by
  obtain ⟨u, a, b⟩ := fq_X5_takeThisWord t x hf.2 rfl P h
  have b : u.1 5 = t.1 5 := b
  exact ⟨u, a, b.trans hf.1, fun g => hf.2 (b.symm.trans g)⟩
theorem fa_takeWord {P : Int32 → Tp → Prop} {t : Tp} {v : Md} (hf : FL t v) (h : wp_X5_takeWord P t) : ∃ r u, P r u ∧ FL u v := by
  obtain ⟨⟨r, u⟩, a, b⟩ := fq_X5_takeWord t hf.2 rfl (fun x => P x.1 x.2) h
  have b : u.1 5 = t.1 5 := b
  exact ⟨r, u, a, b.trans hf.1, fun g => hf.2 (b.symm.trans g)⟩
theorem fa_sound {P : Int32 → Prop} {t : Tp} {v : Md} (hf : FL t v) (h : wp_X5_isSound P t) : P 0 := (e5_isSound h).2 hf.2
theorem fa_blame {P : Tp → Prop} {t : Tp} {x k : Int32} {v : Md} (hf : FL t v) (h : wp_X5_blame P t x k) : P t := e5_blame hf.2 h
theorem sm_readDrum {P6 : Bd → Tp → Prop} {P7 : Int32 → Md → Prop} {b : Bd} {t : Tp} {v : Md} {R W D : Int} (hR : RT t ((va_up v.1 6 ((v.1 6) + 4)), v.2.1, v.2.2.1, v.2.2.2)) (hB : RB b (v.2.2.1 0)) (hf : rw_ok R W D (v.2.2.1 0)) (hD : D < 4) (h6 : wp_X1_readDrum P6 b t) (h7 : wp_X7_readsDrum P7 v) : ∃ b' t' r v', P6 b' t' ∧ P7 r v' ∧ OUT b' t' r v' := by
  have rn := rw_n hf
  unfold wp_X1_readDrum at h6
  unfold wp_X7_readsDrum at h7
  have h7 := (drums_e h7).1 (fun g => by
    have := q_eq g
    have e4 : (4 : Int32).toInt = 4 := rfl
    omega)
  obtain ⟨r1, u1, r7, v1, a1, a2, a3, a4⟩ := sm_number hR (by decide) (by decide) h6 h7
  rcases a4 with ⟨rfl, a4, a5, a6⟩ | ⟨rfl, a4⟩
  · have h7 := a2.1 (by decide)
    obtain ⟨u2, r8, v2, b1, b2, b3, b4⟩ := sm_quoted a4 (by decide) (by decide) (by decide) a1 h7
    have fr := FR_tr a3 b3
    have fv : v2.2 = v.2 := fr.2.2.2
    rcases b4 with ⟨rfl, b4, c1, c2, c3, c4, c5, c6, c7⟩ | ⟨rfl, b4⟩
    · have k6 := ((e5_isSound b1).1 b4.2.2.2.2).2 (by decide)
      have k7 := drums_e (b2.1 (by decide))
      have e2 : (2 : Int32).toInt = 2 := rfl
      have e40 : (40 : Int32).toInt = 40 := rfl
      have e8 : (8 : Int32).toInt = 8 := rfl
      have e42 : (42 : Int32).toInt = 42 := rfl
      have e1 : (1 : Int32).toInt = 1 := rfl
      have e4 : (4 : Int32).toInt = 4 := rfl
      have bb := b4.1.2.2
      rw [e2] at c3
      rw [e40] at c4
      obtain ⟨d, hd⟩ : ∃ d : Nat, (d : Int) = D := ⟨D.toNat, by omega⟩
      have fv1 : v2.2.2.1 0 = v.2.2.1 0 := by rw [fv]
      have b3D : b.1 3 = Int64.toInt32 (v.2.2.1 0 3) := hB.1.2.2.2
      have td : (b.1 3).toInt = (d : Int) := by rw [b3D]; omega
      unfold wp_X0_addDrum at k6
      have k6 := k6.2 (fun g => by
        have := q_le g
        omega)
      rw [c1, c2] at k6
      have k6 := (k6.1 (Int32.le_iff_toInt_le.mpr (by omega))).2.2
      obtain ⟨n6, k6⟩ := k6
      have dn : Int32.toNatClampNeg (b.1 3) = d := by rw [tn_i]; omega
      rw [dn] at k6
      obtain ⟨w, z6, d1, d2, d3, d4, d5, d6⟩ := e0_addDrum_L (d := d) (q := v2.1 10) (n0 := v2.1 11) (by omega) (by omega) (by omega) n6 (b.1, (va_up (va_up b.2.1 0 (upd (b.2.1 0) d r1)) 1 (upd (b.2.1 1) d (v2.1 11))), b.2.2.1, b.2.2.2.1, b.2.2.2.2) 0 td (by decide) (by show (0 : Int) ≤ _; omega) k6
      obtain ⟨_, _, n7, k7⟩ := k7
      rw [fv1] at k7
      have m1 := nw (tq_mulc e42 (Int64.toInt32 (v.2.2.1 0 3))) (by omega)
      have m2 := nw (tq_addc e8 (42 * Int64.toInt32 (v.2.2.1 0 3))) (by omega)
      have m3 := nw (tq_addr e1 (8 + 42 * Int64.toInt32 (v.2.2.1 0 3))) (by omega)
      have i1 : Int32.toNatClampNeg (8 + 42 * Int64.toInt32 (v.2.2.1 0 3)) = 8 + 42 * d := by rw [tn_i]; omega
      have i2 : Int32.toNatClampNeg ((8 + 42 * Int64.toInt32 (v.2.2.1 0 3)) + 1) = 8 + 42 * d + 1 := by rw [tn_i]; omega
      rw [i1, i2] at k7
      obtain ⟨y, z7, g1, g2, g3, g4⟩ := e7_drum_L (d := d) (z1 := v1.1 8) (z2 := 8 + 42 * Int64.toInt32 (v.2.2.1 0 3)) (q := v2.1 10) (n0 := v2.1 11) (by omega) (by omega) (by omega) (by omega) n7 (v2.1, v2.2.1, (va_up v2.2.2.1 0 (vp_updL (vp_updL (v.2.2.1 0) (8 + 42 * d) (Int32.toInt64 (v1.1 8))) (8 + 42 * d + 1) (Int32.toInt64 (v2.1 11)))), v2.2.2.2) 0 rfl rfl (by decide) (by show (0 : Int) ≤ _; omega) k7
      have z0 : (0 : Int32).toInt.toNat = 0 := rfl
      rw [z0] at g3 d5
      have lo : ∀ i : Nat, (i < 8 + 42 * d + 2 ∨ 8 + 42 * d + 2 + (v2.1 11).toInt.toNat ≤ i) → y.2.2.1 0 i = vp_updL (vp_updL (v.2.2.1 0) (8 + 42 * d) (Int32.toInt64 (v1.1 8))) (8 + 42 * d + 1) (Int32.toInt64 (v2.1 11)) i := fun i hi => g3 i hi
      have y3 : y.2.2.1 0 3 = v.2.2.1 0 3 := by
        rw [lo 3 (Or.inl (by omega)), uL_n (by omega), uL_n (by omega)]
      refine ⟨_, _, 1, _, d1, g1, Or.inl ⟨rfl, RT_fn (RT_fn b4 (FN_tr (FN_up v2 _) g2)) (FN_up y _), ?_⟩⟩
      refine RB_drum (d := d) (cur := r1) (n0 := v2.1 11) hB (by rw [hf.2.2.1]; exact hd.symm) (by omega) (show 1 ≤ r1.toInt ∧ r1.toInt ≤ 9 from ⟨a6.1, a6.2.1⟩) (by omega) ?_ ?_ ?_ (fun i hi => ?_) (fun j hj => ?_) ?_ ?_ (fun i n3 hi => ?_) ?_ ?_ (fun k hk => ?_) (fun k hk => ?_)
      · show va_up w.1 3 ((w.1 3) + 1) = _
        rw [d2]
      · show w.2.1 0 = _
        rw [d3 0 (by decide)]
        rfl
      · show w.2.1 1 = _
        rw [d3 1 (by decide)]
        rfl
      · show w.2.1 2 i = _
        rw [d5 i hi]
        rfl
      · show w.2.1 j = _
        rw [d3 j (by omega)]
        show va_up (va_up b.2.1 0 _) 1 _ j = _
        rw [va_n (by omega), va_n (by omega)]
      · show w.2.2.1 = _
        rw [d4]
      · show vp_updL (y.2.2.1 0) 3 ((y.2.2.1 0 3) + 1) 3 = _
        rw [uL_e, y3]
      · show vp_updL (y.2.2.1 0) 3 ((y.2.2.1 0 3) + 1) i = _
        rw [uL_n n3, lo i (by omega), uL_n (by omega), uL_n (by omega)]
      · show vp_updL (y.2.2.1 0) 3 ((y.2.2.1 0 3) + 1) (8 + 42 * d) = _
        rw [uL_n (by omega), lo _ (Or.inl (by omega)), uL_n (by omega), uL_e, a5]
      · show vp_updL (y.2.2.1 0) 3 ((y.2.2.1 0 3) + 1) (8 + 42 * d + 1) = _
        rw [uL_n (by omega), lo _ (Or.inl (by omega)), uL_e]
      · show w.2.1 2 (40 * d + k) = Int64.toInt32 (vp_updL (y.2.2.1 0) 3 ((y.2.2.1 0 3) + 1) (8 + 42 * d + 2 + k))
        rw [uL_n (by omega), g4 k (by show (0 : Int) ≤ _; omega) hk, t32_64, d6 k (by show (0 : Int) ≤ _; omega) hk, tb_eq b4.1]
        exact tb_sg b4.1 c7 c5 c6.1 hk
      · show 32 ≤ (vp_updL (y.2.2.1 0) 3 ((y.2.2.1 0 3) + 1) (8 + 42 * d + 2 + k)).toInt ∧ (vp_updL (y.2.2.1 0) 3 ((y.2.2.1 0 3) + 1) (8 + 42 * d + 2 + k)).toInt ≤ 126
        have sg := tb_sg b4.1 c7 c5 c6.1 hk
        have sk := c7 k hk
        rw [sg] at sk
        rw [uL_n (by omega), g4 k (by show (0 : Int) ≤ _; omega) hk, tq_64]
        exact ⟨sk.1, sk.2.1⟩
    · have k6 := fa_sound b4 b1
      exact ⟨_, _, 0, _, k6.1 rfl, b2.2 rfl, Or.inr ⟨rfl, b4⟩⟩
  · have h7 := a2.2 rfl
    obtain ⟨u2, b1, b2⟩ := fa_quo a4 a1
    have k6 := fa_sound b2 b1
    exact ⟨_, _, 0, _, k6.1 rfl, h7, Or.inr ⟨rfl, b2⟩⟩
/-! cells -/
theorem e7_cells8 {p7 : Int32 → Md → Prop} {e7 : Md → Int32 → Int32 → Int32 → Int32 → Prop} {z1 z2 z3 : Int32} (h0 : 0 ≤ z3.toInt) (h1 : z3.toInt < 40) : ∀ (n : Nat) (s : Md) (z : Int32), 0 ≤ z.toInt → z.toInt ≤ 8 → wp_X7_readsCells_L78 p7 e7 n s z1 z2 z3 z → ∃ u z', e7 u z1 z2 z3 z' ∧ FN s u ∧ (∀ i, (i < 176 + 8 * z3.toInt.toNat + z.toInt.toNat ∨ 176 + 8 * z3.toInt.toNat + 8 ≤ i) → u.2.2.1 0 i = s.2.2.1 0 i) ∧ (∀ j : Nat, z.toInt ≤ (j : Int) → j < 8 → u.2.2.1 0 (176 + 8 * z3.toInt.toNat + j) = 0) := by
  have e1 : (1 : Int32).toInt = 1 := rfl
  have e8 : (8 : Int32).toInt = 8 := rfl
  intro n
  induction n with
  | zero =>
    intro s z _ _ h
    exact (show False from h).elim
  | succ n ih =>
    intro s z a0 a1 h
    unfold wp_X7_readsCells_L78 at h
    by_cases c : 8 ≤ z
    · have := q_le c
      exact ⟨s, z, h.1 c, FN_rf s, fun _ _ => rfl, fun j g1 g2 => by omega⟩
    · have c1 := q_nle c
      have a2 := nw (tq_addr e1 z) (by omega)
      obtain ⟨u, b1, b2, b3⟩ := e7_sets (i := z.toInt.toNat) h0 h1 (by omega) (by omega) (h.2 c)
      obtain ⟨w, z', d1, d2, d3, d4⟩ := ih u (z + 1) (by omega) (by omega) b1
      refine ⟨w, z', d1, FN_tr b2 d2, fun i hi => ?_, fun j g1 g2 => ?_⟩
      · rw [d3 i (by omega), b3]
        exact uL_n (by omega)
      · by_cases g : (j : Int) = z.toInt
        · have ej : j = z.toInt.toNat := by omega
          rw [d3 _ (by omega), b3, ej]
          exact uL_e
        · exact d4 j (by omega) g2
theorem RB_make {b : Bd} {f g : Nat → Int64} {c : Nat} {dr : Int32} {x : Int32} (hx : Int32.toNatClampNeg x = c) (hB : RB b f) (hg : ∀ i, (i < 176 + 8 * c ∨ 176 + 8 * c + 8 ≤ i) → g i = f i) (hz : ∀ j : Nat, 1 ≤ j → j < 8 → g (176 + 8 * c + j) = 0) (h0 : g (176 + 8 * c + 0) = Int32.toInt64 dr) : RB (b.1, (va_up (va_up (va_up (va_up (va_up (va_up (va_up b.2.1 3 (upd (b.2.1 3) (Int32.toNatClampNeg x) dr)) 4 (upd (b.2.1 4) (Int32.toNatClampNeg x) 0)) 5 (upd (b.2.1 5) (Int32.toNatClampNeg x) 0)) 6 (upd (b.2.1 6) (Int32.toNatClampNeg x) 0)) 7 (upd (b.2.1 7) (Int32.toNatClampNeg x) 0)) 8 (upd (b.2.1 8) (Int32.toNatClampNeg x) 0)) 9 (upd (b.2.1 9) (Int32.toNatClampNeg x) 0)), (vp_updL b.2.2.1 (Int32.toNatClampNeg x) 0), b.2.2.2.1, b.2.2.2.2) g := by
  rw [hx]
  have zz : Int64.toInt32 0 = 0 := rfl
  refine RB_c (c := c) hB rfl ⟨rfl, rfl, rfl⟩ (fun j hj i hi => ?_) (fun i hi => uL_n hi) hg ⟨fun j hj => ?_, ?_⟩
  · rcases (show j = 0 ∨ j = 1 ∨ j = 2 ∨ j = 3 ∨ j = 4 ∨ j = 5 ∨ j = 6 by omega) with rfl | rfl | rfl | rfl | rfl | rfl | rfl
    · exact up_n hi
    · exact up_n hi
    · exact up_n hi
    · exact up_n hi
    · exact up_n hi
    · exact up_n hi
    · exact up_n hi
  · rcases (show j = 0 ∨ j = 1 ∨ j = 2 ∨ j = 3 ∨ j = 4 ∨ j = 5 ∨ j = 6 by omega) with rfl | rfl | rfl | rfl | rfl | rfl | rfl
    · rw [h0, t32_64]
      exact up_e
    · rw [hz 1 (by decide) (by decide), zz]
      exact up_e
    · rw [hz 2 (by decide) (by decide), zz]
      exact up_e
    · rw [hz 3 (by decide) (by decide), zz]
      exact up_e
    · rw [hz 4 (by decide) (by decide), zz]
      exact up_e
    · rw [hz 5 (by decide) (by decide), zz]
      exact up_e
    · rw [hz 6 (by decide) (by decide), zz]
      exact up_e
  · rw [hz 7 (by decide) (by decide)]
    exact ⟨uL_e, bs_0 0⟩
theorem sm_cells_L {t : Tp} {p6 : Bd → Tp → Prop} {p7 : Int32 → Md → Prop} {e6 : Bd → Tp → Int32 → Int32 → Int32 → Int32 → Int32 → Prop} {e7 : Md → Int32 → Int32 → Int32 → Prop} {last fr to dr : Int32} (h5 : t.1 5 = 0) (hto : to.toInt < 40) : ∀ (n6 n7 : Nat) (b : Bd) (v : Md) (z : Int32), RB b (v.2.2.1 0) → v.1 8 = dr → 0 ≤ z.toInt → z.toInt ≤ 40 → wp_X1_readCells_L38 p6 e6 n6 b t last fr to dr z → wp_X7_readsCells_L70 p7 e7 n7 v fr to z → ∃ b' z6 v' z7, e6 b' t last fr to dr z6 ∧ e7 v' fr to z7 ∧ RB b' (v'.2.2.1 0) ∧ FN v v' := by
  have e1 : (1 : Int32).toInt = 1 := rfl
  intro n6
  induction n6 with
  | zero =>
    intro n7 b v z _ _ _ _ h
    exact (show False from h).elim
  | succ n6 ih =>
    intro n7 b v z hB h8 h0 h1 h6 h7
    cases n7 with
    | zero => exact (show False from h7).elim
    | succ n7 =>
      unfold wp_X1_readCells_L38 at h6
      unfold wp_X7_readsCells_L70 at h7
      by_cases c : to < z
      · exact ⟨b, z, v, z, h6.1 c, h7.1 c, hB, FN_rf v⟩
      · have c1 := q_nlt c
        have a := nw (tq_addr e1 z) (by omega)
        have k6 := ((e5_isSound (h6.2 c)).1 h5).2 (by decide)
        unfold wp_X0_makeCell at k6
        have k6 := k6.2.2.2.2.2.2.2.2
        obtain ⟨n8, k7⟩ := h7.2 c
        obtain ⟨u, z8, b1, b2, b3, b4⟩ := e7_cells8 h0 (by omega) n8 v 0 (by decide) (by decide) k7
        obtain ⟨w, d1, d2, d3⟩ := e7_sets (i := 0) h0 (by omega) rfl (by decide) b1
        have z0 : (0 : Int32).toInt.toNat = 0 := rfl
        rw [z0] at b3
        refine Exists.elim (ih n7 _ w (z + 1) (RB_make (c := z.toInt.toNat) (dr := dr) rfl hB (fun i hi => ?_) (fun j g1 g2 => ?_) ?_) ?_ (by omega) (by omega) k6 d1) (fun b' ⟨z6, v', z7, g1, g2, g3, g4⟩ => ⟨b', z6, v', z7, g1, g2, g3, FN_tr (FN_tr b2 d2) g4⟩)
        · rw [d3, uL_n (by omega), b3 i (by omega)]
        · rw [d3, uL_n (by omega), b4 j (by show (0 : Int) ≤ _; omega) g2]
        · rw [d3, uL_e, b2.1, h8]
        · rw [d2.1, b2.1, h8]
theorem sm_readCells {P6 : Bd → Tp → Prop} {P7 : Int32 → Md → Prop} {b : Bd} {t : Tp} {v : Md} {R W D : Int} (hR : RT t ((va_up v.1 6 ((v.1 6) + 5)), v.2.1, v.2.2.1, v.2.2.2)) (hB : RB b (v.2.2.1 0)) (hf : rw_ok R W D (v.2.2.1 0)) (h6 : wp_X1_readCells P6 b t) (h7 : wp_X7_readsCells P7 v) : ∃ b' t' r v', P6 b' t' ∧ P7 r v' ∧ OUT b' t' r v' := by
  have rn := rw_n hf
  have e1 : (1 : Int32).toInt = 1 := rfl
  unfold wp_X1_readCells at h6
  unfold wp_X7_readsCells at h7
  have h6 := cells6_e h6
  have h7 := cells7_e h7
  have h7 : wp_X7_readsNumber _ _ (0 : Int32) (Int64.toInt32 (v.2.2.1 0 0) * Int64.toInt32 (v.2.2.1 0 1) - 1) := h7
  have s1 := nw (tq_subr e1 (Int64.toInt32 (v.2.2.1 0 0) * Int64.toInt32 (v.2.2.1 0 1))) (by omega)
  rw [hB.1.1, hB.1.2.1, hB.1.2.2.2] at h6
  obtain ⟨r1, u1, r7, v1, a1, a2, a3, a4⟩ := sm_number hR (by decide) (by omega) h6 h7
  rcases a4 with ⟨rfl, a4, a5, a6, a7, _⟩ | ⟨rfl, a4⟩
  · have fv1 : v1.2 = v.2 := a3.2.2.2
    have h7 := cells7_e (a2.1 (by decide))
    rw [fv1, ← a5] at h7
    have z0 : (0 : Int32).toInt = 0 := rfl
    rw [z0] at a6
    obtain ⟨r2, u2, r8, v2, b1, b2, b3, b4⟩ := sm_number a4 (by omega) (by omega) a1 h7
    rcases b4 with ⟨rfl, b4, b5, b6, b7, _⟩ | ⟨rfl, b4⟩
    · have fv2 : v2.2 = v.2 := b3.2.2.2.trans fv1
      have h7 := drums_e (b2.1 (by decide))
      rw [fv2] at h7
      have s3 := nw (tq_subr e1 (Int64.toInt32 (v.2.2.1 0 3))) (by omega)
      obtain ⟨r3, u3, r9, v3, c1, c2, c3, c4⟩ := sm_number b4 (by decide) (by omega) b1 h7
      rcases c4 with ⟨rfl, c4, c5, c6, c7, _⟩ | ⟨rfl, c4⟩
      · have fv3 : v3.2 = v.2 := c3.2.2.2.trans fv2
        obtain ⟨n6, k6⟩ := c1
        obtain ⟨n7, k7⟩ := c2.1 (by decide)
        rw [← b5] at k7
        obtain ⟨b', z6, v', z7, g1, g2, g3, g4⟩ := sm_cells_L c4.2.2.2.2 (by omega) n6 n7 b v3 r1 (by rw [fv3]; exact hB) c5.symm (by omega) (by omega) k6 k7
        exact ⟨b', u3, 1, v', g1, g2, Or.inl ⟨rfl, RT_fn c4 g4, g3⟩⟩
      · obtain ⟨n6, k6⟩ := c1
        cases n6 with
        | zero => exact (show False from k6).elim
        | succ n6 =>
          unfold wp_X1_readCells_L38 at k6
          refine ⟨b, u3, 0, v3, ?_, c2.2 rfl, Or.inr ⟨rfl, c4⟩⟩
          by_cases g : r2 < r1
          · exact k6.1 g
          · exact (fa_sound c4 (k6.2 g)).1 rfl
    · obtain ⟨r3, u3, c1, c4⟩ := fa_num b4 b1
      obtain ⟨n6, k6⟩ := c1
      cases n6 with
      | zero => exact (show False from k6).elim
      | succ n6 =>
        unfold wp_X1_readCells_L38 at k6
        refine ⟨b, u3, 0, v2, ?_, b2.2 rfl, Or.inr ⟨rfl, c4⟩⟩
        by_cases g : r2 < r1
        · exact k6.1 g
        · exact (fa_sound c4 (k6.2 g)).1 rfl
  · obtain ⟨r2, u2, b1, b4⟩ := fa_num a4 a1
    obtain ⟨r3, u3, c1, c4⟩ := fa_num b4 b1
    obtain ⟨n6, k6⟩ := c1
    cases n6 with
    | zero => exact (show False from k6).elim
    | succ n6 =>
      unfold wp_X1_readCells_L38 at k6
      refine ⟨b, u3, 0, v1, ?_, a2.2 rfl, Or.inr ⟨rfl, c4⟩⟩
      by_cases g : r2 < r1
      · exact k6.1 g
      · exact (fa_sound c4 (k6.2 g)).1 rfl

/-! worn flaps, lost steps, rows of a board's text -/
theorem cell_x {s : Bd} {f : Nat → Int64} {R W D : Int} {c : Nat} (hf : rw_ok R W D f) (hD : 0 < D) (hB : RB s f) (hc : (c : Int) < R * W) : ∃ d : Nat, d < 4 ∧ (d : Int) < D ∧ c < 40 ∧ s.2.1 3 c = Int64.toInt32 (f (176 + 8 * c + 0)) ∧ (s.2.1 3 c).toInt = (d : Int) ∧ c_f f c 0 = (d : Int) ∧ s.2.1 1 d = Int64.toInt32 (f (8 + 42 * d + 1)) ∧ (s.2.1 1 d).toInt = d_f f d ∧ 2 ≤ d_f f d ∧ d_f f d ≤ 40 ∧ (s.1 3).toInt = D := by
  obtain ⟨q0, q1, q2, q3, q4, q5⟩ := cl_f hf hD hc
  have f0 := hf.1
  have f1 := hf.2.1
  have f3 := hf.2.2.1
  obtain ⟨b0, b1, b2⟩ := hB
  obtain ⟨c1, c2⟩ := b2 c (by rw [f0, f1]; exact hc)
  have x3 : s.2.1 3 c = Int64.toInt32 (f (176 + 8 * c + 0)) := c1 0 (by decide)
  have hd : (((c_f f c 0).toNat : Nat) : Int) = c_f f c 0 := by omega
  obtain ⟨_, d0, d1, d2⟩ := b1.2 (c_f f c 0).toNat (by omega)
  refine ⟨(c_f f c 0).toNat, by omega, by omega, q0.1, x3, ?_, hd.symm, d1, ?_, q1.1, q1.2, ?_⟩
  · rw [x3, t32 (by unfold c_f at q0; omega), hd]
    rfl
  · rw [d1, t32 (by unfold d_f at q1; omega)]
    rfl
  · rw [b0.2.2.2, t32 (by omega)]
    exact f3
theorem e0_flapsOf {P : Int32 → Prop} {s : Bd} {x : Int32} {d : Nat} (hd : d < 4) (h3 : (s.2.1 3 x.toInt.toNat).toInt = (d : Int)) (hD : (d : Int) < (s.1 3).toInt) (h : wp_X0_flapsOf P s x) : P (s.2.1 1 d) := by
  unfold wp_X0_flapsOf at h
  have e0 : (0 : Int32).toInt = 0 := rfl
  have tx : Int32.toNatClampNeg x = x.toInt.toNat := rfl
  rw [tx] at h
  have td : Int32.toNatClampNeg (s.2.1 3 x.toInt.toNat) = d := by
    rw [tn_i]
    omega
  rw [td] at h
  have h := h.2.2 (fun g => by have := q_lt g; omega)
  exact (h.2 (fun g => by have := q_le g; omega)).2
theorem e0_isWorn {P : Int32 → Prop} {s : Bd} {x y : Int32} (hy : 0 ≤ y.toInt ∧ y.toInt < 64) (h : wp_X0_isWorn P s x y) : (P 1 ∧ bs_at (s.2.2.1 x.toInt.toNat) y.toInt.toNat = true) ∨ (P 0 ∧ bs_at (s.2.2.1 x.toInt.toNat) y.toInt.toNat = false) := by
  unfold wp_X0_isWorn at h
  have tx : Int32.toNatClampNeg x = x.toInt.toNat := rfl
  rw [tx] at h
  have h := h.2
  by_cases c : lg_cmp (((s.2.2.1 x.toInt.toNat) >>> (Int32.toInt64 y &&& 63)) &&& 1) 0 = 0
  · exact Or.inr ⟨h.1 c, (bs_wt hy).mp c⟩
  · refine Or.inl ⟨h.2 c, ?_⟩
    cases g : bs_at (s.2.2.1 x.toInt.toNat) y.toInt.toNat with
    | true => rfl
    | false => exact absurd ((bs_wt hy).mpr g) c
theorem RB_at {s : Bd} {f : Nat → Int64} {R W D : Int} {c : Nat} (hf : rw_ok R W D f) (hB : RB s f) (hc : (c : Int) < R * W) : (∀ j : Nat, j < 7 → s.2.1 (3 + j) c = Int64.toInt32 (f (176 + 8 * c + j))) ∧ s.2.2.1 c = f (176 + 8 * c + 7) :=
  have q := hB.2.2 c (by rw [hf.1, hf.2.1]; exact hc)
  ⟨q.1, q.2.1⟩
theorem RB_w {s : Bd} {f : Nat → Int64} {R W D : Int} {c : Nat} (hf : rw_ok R W D f) (hB : RB s f) (hc : (c : Int) < R * W) : bs_at (f (176 + 8 * c + 7)) 0 = false := (hB.2.2 c (by rw [hf.1, hf.2.1]; exact hc)).2.2
theorem sm_wears {P6 : Bd → Prop} {P7 : Md → Prop} {b : Bd} {v : Md} {x y : Int32} {R W D : Int} (hf : rw_ok R W D (v.2.2.1 0)) (hB : RB b (v.2.2.1 0)) (hx : 0 ≤ x.toInt) (hc : x.toInt < R * W) (hc2 : R * W ≤ 40) (hy : 1 ≤ y.toInt ∧ y.toInt < 40) (h6 : wp_X0_wearFlap P6 b x y) (h7 : wp_X7_wears P7 v x y) : ∃ b' v', P6 b' ∧ P7 v' ∧ FN v v' ∧ RB b' (v'.2.2.1 0) := by
  unfold wp_X0_wearFlap at h6
  unfold wp_X7_wears at h7
  have tx : Int32.toNatClampNeg x = x.toInt.toNat := rfl
  rw [tx] at h6
  have at_ := RB_at (c := x.toInt.toNat) hf hB (by omega)
  have h7 := e7_wornOf hx (by omega) h7
  obtain ⟨u, h7, f1, g1⟩ := e7_sets (i := 7) hx (by omega) rfl (by decide) h7
  have h7 := e7_of (i := 3) hx (by omega) rfl (by decide) h7
  rw [g1, uL_n (by omega), ← at_.1 3 (by decide)] at h7
  have h6 := h6.2.2.2
  rw [at_.2] at h6
  have h7 : (¬ b.2.1 6 x.toInt.toNat = y → P7 u) ∧ (b.2.1 6 x.toInt.toNat = y → wp_X7_sets (fun u_9 => P7 u_9) u x 3 0) := h7
  by_cases c : b.2.1 6 x.toInt.toNat = y
  · obtain ⟨w, k7, f2, g2⟩ := e7_sets (i := 3) hx (by omega) rfl (by decide) (h7.2 c)
    refine ⟨_, w, (h6.2 c).2, k7, FN_tr f1 f2, ?_⟩
    rw [g2, g1]
    refine RB_c (c := x.toInt.toNat) hB rfl ⟨rfl, rfl, rfl⟩ (fun j hj i hi => ?_) (fun i hi => uL_n hi) (fun i hi => ?_) ⟨fun j hj => ?_, ?_⟩
    · show va_up b.2.1 6 _ (3 + j) i = _
      by_cases q : j = 3
      · subst q
        exact up_n hi
      · rw [va_n (by omega)]
    · rw [uL_n (by omega), uL_n (by omega)]
    · show va_up b.2.1 6 _ (3 + j) x.toInt.toNat = _
      by_cases q : j = 3
      · subst q
        rw [uL_e]
        exact up_e
      · rw [va_n (by omega), uL_n (by omega), uL_n (by omega)]
        exact at_.1 j hj
    · refine ⟨?_, ?_⟩
      · show vp_updL b.2.2.1 x.toInt.toNat _ x.toInt.toNat = _
        rw [uL_e, uL_n (by omega), uL_e]
      · rw [uL_n (by omega), uL_e, bs_or (by omega), RB_w (c := x.toInt.toNat) hf hB (by omega), decide_eq_false (by omega)]
        rfl
  · refine ⟨_, u, h6.1 c, h7.1 c, f1, ?_⟩
    rw [g1]
    refine RB_c (c := x.toInt.toNat) hB rfl ⟨rfl, rfl, rfl⟩ (fun j hj i hi => rfl) (fun i hi => uL_n hi) (fun i hi => uL_n (by omega)) ⟨fun j hj => ?_, ?_⟩
    · show b.2.1 (3 + j) x.toInt.toNat = _
      rw [uL_n (by omega)]
      exact at_.1 j hj
    · refine ⟨?_, ?_⟩
      · show vp_updL b.2.2.1 x.toInt.toNat _ x.toInt.toNat = _
        rw [uL_e, uL_e]
      · rw [uL_e, bs_or (by omega), RB_w (c := x.toInt.toNat) hf hB (by omega), decide_eq_false (by omega)]
        rfl
theorem sm_readWorn {P6 : Bd → Tp → Prop} {P7 : Int32 → Md → Prop} {b : Bd} {t : Tp} {v : Md} {R W D : Int} (hR : RT t ((va_up v.1 6 ((v.1 6) + 4)), v.2.1, v.2.2.1, v.2.2.2)) (hB : RB b (v.2.2.1 0)) (hf : rw_ok R W D (v.2.2.1 0)) (hD : 0 < D) (h6 : wp_X1_readWorn P6 b t) (h7 : wp_X7_readsWorn P7 v) : ∃ b' t' r v', P6 b' t' ∧ P7 r v' ∧ OUT b' t' r v' := by
  have rn := rw_n hf
  have e1 : (1 : Int32).toInt = 1 := rfl
  have e0 : (0 : Int32).toInt = 0 := rfl
  unfold wp_X1_readWorn at h6
  unfold wp_X7_readsWorn at h7
  have h6 := cells6_e h6
  have h7 := cells7_e h7
  have h7 : wp_X7_readsNumber _ _ (0 : Int32) (Int64.toInt32 (v.2.2.1 0 0) * Int64.toInt32 (v.2.2.1 0 1) - 1) := h7
  have s1 := nw (tq_subr e1 (Int64.toInt32 (v.2.2.1 0 0) * Int64.toInt32 (v.2.2.1 0 1))) (by omega)
  rw [hB.1.1, hB.1.2.1] at h6
  obtain ⟨r1, u1, r7, v1, a1, a2, a3, a4⟩ := sm_number hR (by decide) (by omega) h6 h7
  rcases a4 with ⟨rfl, a4, a5, a6, a7, _⟩ | ⟨rfl, a4⟩
  · have fv1 : v1.2 = v.2 := a3.2.2.2
    have h7 := a2.1 (by decide)
    rw [← a5] at h7
    rw [e0] at a6
    have hc : r1.toInt < R * W := by omega
    obtain ⟨d, x1, x2, x3, x4, x5, x6, x7, x8, x9, x10, x11⟩ := cell_x (c := r1.toInt.toNat) hf hD hB (by omega)
    have h6 := e0_flapsOf x1 x5 (by omega) a1
    unfold wp_X7_flaps at h7
    have h7 := e7_flapsOf (by
      rw [fv1]
      have : (Int64.toInt32 (v.2.2.1 0 (176 + 8 * r1.toInt.toNat + 0))).toInt = (d : Int) := by rw [← x4]; exact x5
      omega) (by
      rw [fv1]
      have : (Int64.toInt32 (v.2.2.1 0 (176 + 8 * r1.toInt.toNat + 0))).toInt = (d : Int) := by rw [← x4]; exact x5
      omega) (e7_of (i := 0) a6 (by omega) rfl (by decide) h7)
    have dn : (Int64.toInt32 (v.2.2.1 0 (176 + 8 * r1.toInt.toNat + 0))).toInt.toNat = d := by
      rw [← x4]
      omega
    rw [fv1, dn, ← x7] at h7
    have s2 := nw (tq_subr e1 (b.2.1 1 d)) (by omega)
    obtain ⟨r2, u2, r8, v2, b1, b2, b3, b4⟩ := sm_number a4 (by decide) (by omega) h6 h7
    have fv2 : v2.2 = v.2 := b3.2.2.2.trans fv1
    rcases b4 with ⟨rfl, b4, b5, b6, b7, b8, b9, b10⟩ | ⟨rfl, b4⟩
    · have k6 := ((e5_isSound b1).1 b4.2.2.2.2).2 (by decide)
      have k7 := e7_wornOf a6 (by omega) (b2.1 (by decide))
      rw [← b5] at k7
      rw [e1] at b6
      have at_ := RB_at (c := r1.toInt.toNat) hf hB (by omega)
      rw [fv2] at k7
      rcases e0_isWorn (by omega) k6 with ⟨k6, w6⟩ | ⟨k6, w6⟩
      · rcases e7_isIn (by omega) k7 with ⟨k7, w7⟩ | ⟨k7, w7⟩
        · obtain ⟨w, y, c1, c2, c3, c4⟩ := sm_fault b4.2.2.2.2 b8 b9 b10.1 (by decide) (by decide) (k6.2 (by decide)) (k7.2 (by decide))
          have k := fa_sound c4 c1
          exact ⟨b, w, 0, y, k.1 rfl, c2.2, Or.inr ⟨rfl, c4⟩⟩
        · rw [at_.2, w7] at w6
          exact absurd w6 (by decide)
      · rcases e7_isIn (by omega) k7 with ⟨k7, w7⟩ | ⟨k7, w7⟩
        · rw [at_.2, w7] at w6
          exact absurd w6 (by decide)
        · have k6 := ((e5_isSound (k6.1 rfl)).1 b4.2.2.2.2).2 (by decide)
          have k7 := k7.1 rfl
          obtain ⟨b', v', g1, g2, g3, g4⟩ := sm_wears (R := R) (W := W) (D := D) (by rw [fv2]; exact hf) (by rw [fv2]; exact hB) a6 hc (by omega) (by omega) k6 k7
          exact ⟨b', u2, 1, v', g1, g2, Or.inl ⟨rfl, RT_fn b4 g3, g4⟩⟩
    · have k6 := (fa_sound b4 b1).1 rfl
      have k6 := (fa_sound b4 k6).1 rfl
      exact ⟨b, u2, 0, v2, k6, b2.2 rfl, Or.inr ⟨rfl, b4⟩⟩
  · obtain ⟨r5, h6, _⟩ := xf_dt (dt_X0_flapsOf b r1) _ a1
    obtain ⟨r2, u2, b1, b4⟩ := fa_num a4 h6
    have k6 := (fa_sound b4 b1).1 rfl
    have k6 := (fa_sound b4 k6).1 rfl
    exact ⟨b, u2, 0, v1, k6, a2.2 rfl, Or.inr ⟨rfl, b4⟩⟩
theorem sm_readLose {P6 : Bd → Tp → Prop} {P7 : Int32 → Md → Prop} {b : Bd} {t : Tp} {v : Md} {R W D : Int} (hR : RT t ((va_up v.1 6 ((v.1 6) + 4)), v.2.1, v.2.2.1, v.2.2.2)) (hB : RB b (v.2.2.1 0)) (hf : rw_ok R W D (v.2.2.1 0)) (h6 : wp_X1_readLose P6 b t) (h7 : wp_X7_readsLose (fun r_19 u_20 => ((¬ r_19 = 0 → wp_X7_sets (fun u_23 => P7 1 u_23) u_20 (u_20.1 12) (4 : Int32) (Int32.toInt64 (u_20.1 8))) ∧ (r_19 = 0 → P7 0 u_20))) v) : ∃ b' t' r v', P6 b' t' ∧ P7 r v' ∧ OUT b' t' r v' := by
  have rn := rw_n hf
  have e1 : (1 : Int32).toInt = 1 := rfl
  have e0 : (0 : Int32).toInt = 0 := rfl
  unfold wp_X1_readLose at h6
  unfold wp_X7_readsLose at h7
  have h6 := cells6_e h6
  have h7 := cells7_e h7
  have h7 : wp_X7_readsNumber _ _ (0 : Int32) (Int64.toInt32 (v.2.2.1 0 0) * Int64.toInt32 (v.2.2.1 0 1) - 1) := h7
  have s1 := nw (tq_subr e1 (Int64.toInt32 (v.2.2.1 0 0) * Int64.toInt32 (v.2.2.1 0 1))) (by omega)
  rw [hB.1.1, hB.1.2.1] at h6
  obtain ⟨r1, u1, r7, v1, a1, a2, a3, a4⟩ := sm_number hR (by decide) (by omega) h6 h7
  rcases a4 with ⟨rfl, a4, a5, a6, a7, _⟩ | ⟨rfl, a4⟩
  · have fv1 : v1.2 = v.2 := a3.2.2.2
    have h7 := a2.1 (by decide)
    rw [e0] at a6
    have hc : r1.toInt < R * W := by omega
    obtain ⟨r2, u2, r8, v2, b1, b2, b3, b4⟩ := sm_number (show RT u1 ((va_up v1.1 12 (v1.1 8)), v1.2.1, v1.2.2.1, v1.2.2.2) from a4) (by decide) (by decide) a1 h7
    have fv2 : v2.2 = v.2 := b3.2.2.2.trans fv1
    have b2 := b2.2
    rcases b4 with ⟨rfl, b4, b5, b6, b7, _⟩ | ⟨rfl, b4⟩
    · have k6 := ((e5_isSound b1).1 b4.2.2.2.2).2 (by decide)
      have k7 := b2.1 (by decide)
      have e12 : v2.1 12 = r1 := (b3.2.2.1 12 (by decide)).trans a5.symm
      rw [e12, ← b5] at k7
      unfold wp_X0_setLost wp_X0_hasCell at k6
      have k6 := cells6_e (k6.2 (fun g => by have := q_lt g; omega))
      rw [hB.1.1, hB.1.2.1] at k6
      have k6 := ((k6.2 (fun g => by have := q_le g; omega)).2 (by decide)).2
      obtain ⟨v3, k7, f3, g3⟩ := e7_sets (i := 4) a6 (by omega) rfl (by decide) k7
      have at_ := RB_at (c := r1.toInt.toNat) hf hB (by omega)
      refine ⟨_, u2, 1, v3, k6, k7, Or.inl ⟨rfl, RT_fn b4 f3, ?_⟩⟩
      rw [g3, fv2]
      refine RB_c (c := r1.toInt.toNat) hB rfl ⟨rfl, rfl, rfl⟩ (fun j hj i hi => ?_) (fun i hi => rfl) (fun i hi => uL_n (by omega)) ⟨fun j hj => ?_, ?_⟩
      · show va_up b.2.1 7 _ (3 + j) i = _
        by_cases q : j = 4
        · subst q
          exact up_n hi
        · rw [va_n (by omega)]
      · show va_up b.2.1 7 _ (3 + j) r1.toInt.toNat = _
        by_cases q : j = 4
        · subst q
          rw [uL_e, t32_64]
          exact up_e
        · rw [va_n (by omega), uL_n (by omega)]
          exact at_.1 j hj
      · rw [uL_n (by omega)]
        exact ⟨at_.2, RB_w (c := r1.toInt.toNat) hf hB (by omega)⟩
    · exact ⟨b, u2, 0, v2, (fa_sound b4 b1).1 rfl, b2.2 rfl, Or.inr ⟨rfl, b4⟩⟩
  · obtain ⟨r2, u2, b1, b4⟩ := fa_num a4 a1
    exact ⟨b, u2, 0, v1, (fa_sound b4 b1).1 rfl, (a2.2 rfl).2 rfl, Or.inr ⟨rfl, b4⟩⟩

/-! A row of a board's text: what its cells want, show, believe. -/
def VW (f : Nat → Int64) (s : Md) (q n0 : Int32) (c i : Nat) (w : Int32) : Prop := ((i : Int) < n0.toInt ∧ ∃ r, NV f c (tb7 s (q + nI i)) r ∧ ((r = -1 ∧ w = Int64.toInt32 (f (176 + 8 * c + 3))) ∨ (¬ r = -1 ∧ w = r))) ∨ (n0.toInt ≤ (i : Int) ∧ w = 0)
theorem VW_u {R W D : Int} {f : Nat → Int64} {s : Md} {q n0 : Int32} {c i : Nat} {w y : Int32} (hf : rw_ok R W D f) (hD : 0 < D) (hc : (c : Int) < R * W) (h1 : VW f s q n0 c i w) (h2 : VW f s q n0 c i y) : w = y := by
  rcases h1 with ⟨a, r, b, d⟩ | ⟨a, b⟩
  · rcases h2 with ⟨_, r2, b2, d2⟩ | ⟨a2, _⟩
    · have e := NV_u hf hD hc b b2
      subst e
      rcases d with ⟨d, e⟩ | ⟨d, e⟩
      · rcases d2 with ⟨_, e2⟩ | ⟨d2, _⟩
        · rw [e, e2]
        · exact absurd d d2
      · rcases d2 with ⟨d2, _⟩ | ⟨_, e2⟩
        · exact absurd d2 d
        · rw [e, e2]
    · omega
  · rcases h2 with ⟨a2, _⟩ | ⟨_, b2⟩
    · omega
    · rw [b, b2]
def SI (b : Bd) (f : Nat → Int64) (m : Md) (q n0 : Int32) (K : Nat) (s : Bd) (k : Nat) : Prop := s.1 = b.1 ∧ (∀ j, ¬ (j = 4 ∨ j = 5 ∨ j = 6) → s.2.1 j = b.2.1 j) ∧ s.2.2 = b.2.2 ∧ (∀ c : Nat, (c < K ∨ K + k ≤ c) → ∀ j, s.2.1 j c = b.2.1 j c) ∧ (∀ i : Nat, i < k → VW f m q n0 (K + i) i (s.2.1 6 (K + i)) ∧ s.2.1 4 (K + i) = s.2.1 6 (K + i) ∧ s.2.1 5 (K + i) = s.2.1 6 (K + i))
theorem SI_on {b : Bd} {f : Nat → Int64} {m : Md} {q n0 : Int32} {K : Nat} {s u : Bd} {k : Nat} (h : SI b f m q n0 K s k) (h1 : u.1 = s.1) (h2 : u.2.2 = s.2.2) (h3 : ∀ j, ¬ (j = 4 ∨ j = 5 ∨ j = 6) → u.2.1 j = s.2.1 j) (h4 : ∀ c, ¬ c = K + k → ∀ j, u.2.1 j c = s.2.1 j c) (h5 : VW f m q n0 (K + k) k (u.2.1 6 (K + k))) (h6 : u.2.1 4 (K + k) = u.2.1 6 (K + k)) (h7 : u.2.1 5 (K + k) = u.2.1 6 (K + k)) : SI b f m q n0 K u (k + 1) := by
  obtain ⟨a1, a2, a3, a4, a5⟩ := h
  refine ⟨h1.trans a1, fun j hj => (h3 j hj).trans (a2 j hj), h2.trans a3, fun c hc j => ?_, fun i hi => ?_⟩
  · rw [h4 c (by omega) j]
    exact a4 c (by omega) j
  · by_cases g : i = k
    · subst g
      exact ⟨h5, h6, h7⟩
    · rw [h4 _ (by omega), h4 _ (by omega), h4 _ (by omega)]
      exact a5 i (by omega)
theorem RDr_c {s u : Bd} {f : Nat → Int64} (h : RDr s f) (h1 : u.1 = s.1) (h0 : u.2.1 0 = s.2.1 0 ∧ u.2.1 1 = s.2.1 1 ∧ u.2.1 2 = s.2.1 2) : RDr u f := by
  unfold RDr
  rw [h1, h0.1, h0.2.1, h0.2.2]
  exact h
/-- the flap for a place of a text, by the class -/
theorem flap6 {P : Int32 → Prop} {s : Bd} {t : Tp} {m : Md} {f : Nat → Int64} {x q n0 : Int32} {z : Int32} {R W D : Int} {c : Nat} (hf : rw_ok R W D f) (hD : 0 < D) (hB : RDr s f) (hxx : RX t m) (hx : x.toInt = (c : Int)) (hc : (c : Int) < R * W) (x3 : s.2.1 3 c = Int64.toInt32 (f (176 + 8 * c + 0))) (x5 : s.2.1 5 c = Int64.toInt32 (f (176 + 8 * c + 2))) (c2 : s.2.2.1 c = f (176 + 8 * c + 7)) (hz : 0 ≤ z.toInt) (hz2 : z.toInt ≤ 400) (hq : 0 ≤ q.toInt ∧ q.toInt ≤ 400) (h : wp_X0_flapFor P s t x z q n0) : ∃ r, P r ∧ ((z.toInt < n0.toInt ∧ NV f c (tb7 m (q + nI z.toInt.toNat)) r) ∨ (n0.toInt ≤ z.toInt ∧ r = 0)) := by
  have e0 : (0 : Int32).toInt = 0 := rfl
  unfold wp_X0_flapFor at h
  have h := h.2 (fun g => by have := q_lt g; omega)
  by_cases g : n0 ≤ z
  · have := q_le g
    exact ⟨0, h.1 g, Or.inr ⟨this, rfl⟩⟩
  · have g1 := q_nle g
    have a := nw (tq_add q z) (by omega)
    have h := e5_byteAt (by omega) (h.2 g)
    rw [tb_eq hxx] at h
    have en : x.toInt.toNat = c := by omega
    obtain ⟨r, p, n⟩ := near6 hf hD hB (by omega) (by omega) (by rw [en]; exact x3) (by rw [en]; exact x5) (by rw [en]; exact c2) h
    rw [en] at n
    rw [nI_tn hz]
    exact ⟨r, p, Or.inl ⟨g1, n⟩⟩
theorem e0_show_L {t : Tp} {b : Bd} {f : Nat → Int64} {m : Md} {R W D : Int} {x q n0 : Int32} {K : Nat} {p6 : Bd → Prop} (hf : rw_ok R W D f) (hD : 0 < D) (hB : RB b f) (hxx : RX t m) (hW : (b.1 1).toInt = W) (hK : x.toInt * W = (K : Int)) (hK2 : (K : Int) + W ≤ R * W) (hq : 0 ≤ q.toInt ∧ q.toInt ≤ 400) : ∀ (n : Nat) (s : Bd) (z : Int32), 0 ≤ z.toInt → z.toInt ≤ W → SI b f m q n0 K s z.toInt.toNat → wp_X0_showSigns_L3 t p6 (fun t0 z1 z3 z4 z5 => p6 t0) n s x q n0 z → ∃ u, p6 u ∧ SI b f m q n0 K u W.toNat := by
  have rn := rw_n hf
  have e1 : (1 : Int32).toInt = 1 := rfl
  intro n
  induction n with
  | zero =>
    intro s z _ _ _ h
    exact (show False from h).elim
  | succ n ih =>
    intro s z h0 h1 hI h
    unfold wp_X0_showSigns_L3 at h
    have I := hI
    obtain ⟨i1, i2, i3, i4, i5⟩ := hI
    rw [i1] at h
    by_cases c : b.1 1 ≤ z
    · have := q_le c
      refine ⟨s, h.1 c, ?_⟩
      rw [show W.toNat = z.toInt.toNat by omega]
      exact I
    · have c1 := q_nle c
      have m1 := tq_mul x (b.1 1)
      rw [hW, hK] at m1
      have m1 := nw m1 (by omega)
      have m2 := nw (tq_add (x * b.1 1) z) (by omega)
      have a := nw (tq_addr e1 z) (by omega)
      have ix : Int32.toNatClampNeg (x * b.1 1 + z) = K + z.toInt.toNat := by
        rw [tn_i]
        omega
      have at_ := RB_at (c := K + z.toInt.toNat) hf hB (by omega)
      have same := i4 (K + z.toInt.toNat) (by omega)
      rw [ix] at h
      obtain ⟨r, h, hr⟩ := flap6 (c := K + z.toInt.toNat) hf hD (RDr_c (RB_d hB) i1 ⟨i2 0 (by decide), i2 1 (by decide), i2 2 (by decide)⟩) hxx (by omega) (by omega) ((same 3).trans (at_.1 0 (by decide))) ((same 5).trans (at_.1 2 (by decide))) (by rw [i3]; exact at_.2) h0 (by omega) hq (h.2 c)
      have z1 : (z + 1).toInt.toNat = z.toInt.toNat + 1 := by omega
      have kz : ((z.toInt.toNat : Nat) : Int) = z.toInt := by omega
      have w6 : s.2.1 6 (K + z.toInt.toNat) = Int64.toInt32 (f (176 + 8 * (K + z.toInt.toNat) + 3)) := (same 6).trans (at_.1 3 (by decide))
      by_cases g : r = -1
      · have h := (h.1 g).2.2.2.2
        refine ih _ (z + 1) (by omega) (by omega) ?_ h
        rw [z1]
        refine SI_on I i1.symm rfl (fun j hj => ?_) (fun c hc j => ?_) ?_ ?_ ?_
        · show va_up (va_up s.2.1 4 _) 5 _ j = _
          rw [va_n (by omega), va_n (by omega)]
        · show va_up (va_up s.2.1 4 _) 5 _ j c = _
          by_cases q5 : j = 5
          · subst q5
            exact up_n hc
          · rw [va_n q5]
            by_cases q4 : j = 4
            · subst q4
              exact up_n hc
            · rw [va_n q4]
        · show VW f m q n0 (K + z.toInt.toNat) z.toInt.toNat (s.2.1 6 (K + z.toInt.toNat))
          rcases hr with ⟨r1, r2⟩ | ⟨r1, r2⟩
          · exact Or.inl ⟨by omega, r, r2, Or.inl ⟨g, w6⟩⟩
          · rw [r2] at g
            exact absurd g (by decide)
        · show upd (s.2.1 4) (K + z.toInt.toNat) (s.2.1 6 (K + z.toInt.toNat)) (K + z.toInt.toNat) = _
          exact up_e
        · show upd (s.2.1 5) (K + z.toInt.toNat) (s.2.1 6 (K + z.toInt.toNat)) (K + z.toInt.toNat) = _
          exact up_e
      · have h := (h.2 g).2.2.2.2.2
        refine ih _ (z + 1) (by omega) (by omega) ?_ h
        rw [z1]
        have e6 : upd (s.2.1 6) (K + z.toInt.toNat) r (K + z.toInt.toNat) = r := up_e
        refine SI_on I i1.symm rfl (fun j hj => ?_) (fun c hc j => ?_) ?_ ?_ ?_
        · show va_up (va_up (va_up s.2.1 4 _) 5 _) 6 _ j = _
          rw [va_n (by omega), va_n (by omega), va_n (by omega)]
        · show va_up (va_up (va_up s.2.1 4 _) 5 _) 6 _ j c = _
          by_cases q6 : j = 6
          · subst q6
            exact up_n hc
          · rw [va_n q6]
            by_cases q5 : j = 5
            · subst q5
              exact up_n hc
            · rw [va_n q5]
              by_cases q4 : j = 4
              · subst q4
                exact up_n hc
              · rw [va_n q4]
        · show VW f m q n0 (K + z.toInt.toNat) z.toInt.toNat (upd (s.2.1 6) (K + z.toInt.toNat) r (K + z.toInt.toNat))
          rw [e6]
          rcases hr with ⟨r1, r2⟩ | ⟨r1, r2⟩
          · exact Or.inl ⟨by omega, r, r2, Or.inr ⟨g, rfl⟩⟩
          · exact Or.inr ⟨by omega, r2⟩
        · show upd (s.2.1 4) (K + z.toInt.toNat) (upd (s.2.1 6) (K + z.toInt.toNat) r (K + z.toInt.toNat)) (K + z.toInt.toNat) = upd (s.2.1 6) (K + z.toInt.toNat) r (K + z.toInt.toNat)
          exact up_e
        · show upd (s.2.1 5) (K + z.toInt.toNat) (upd (s.2.1 6) (K + z.toInt.toNat) r (K + z.toInt.toNat)) (K + z.toInt.toNat) = upd (s.2.1 6) (K + z.toInt.toNat) r (K + z.toInt.toNat)
          exact up_e
/-! the reference: first what is wanted, then what is shown and believed -/
def WI (v0 : Md) (f : Nat → Int64) (q n0 : Int32) (K : Nat) (v : Md) (k : Nat) : Prop := FN v0 v ∧ (∀ i : Nat, (∀ j : Nat, j < k → ¬ i = 176 + 8 * (K + j) + 3) → v.2.2.1 0 i = f i) ∧ (∀ j : Nat, j < k → VW f v0 q n0 (K + j) j (Int64.toInt32 (v.2.2.1 0 (176 + 8 * (K + j) + 3))))
theorem WI_on {v0 : Md} {f : Nat → Int64} {q n0 : Int32} {K : Nat} {v u : Md} {k : Nat} (h : WI v0 f q n0 K v k) (h1 : FN v u) (h2 : ∀ i : Nat, ¬ i = 176 + 8 * (K + k) + 3 → u.2.2.1 0 i = v.2.2.1 0 i) (h3 : VW f v0 q n0 (K + k) k (Int64.toInt32 (u.2.2.1 0 (176 + 8 * (K + k) + 3)))) : WI v0 f q n0 K u (k + 1) := by
  obtain ⟨a1, a2, a3⟩ := h
  refine ⟨FN_tr a1 h1, fun i hi => ?_, fun j hj => ?_⟩
  · rw [h2 i (hi k (by omega))]
    exact a2 i (fun j hj => hi j (by omega))
  · by_cases g : j = k
    · subst g
      exact h3
    · rw [h2 _ (by omega)]
      exact a3 j (by omega)
theorem e7_wants_L {t : Tp} {v0 : Md} {f : Nat → Int64} {R W D : Int} {x q n0 : Int32} {K : Nat} {p7 : Int32 → Md → Prop} {e7 : Md → Int32 → Int32 → Int32 → Int32 → Int32 → Int32 → Prop} (hf : rw_ok R W D f) (hD : 0 < D) (hxx : RX t v0) (hK : x.toInt * W = (K : Int)) (hK2 : (K : Int) + W ≤ R * W) (hq : 0 ≤ q.toInt) (hn : 0 ≤ n0.toInt) (hqn : q.toInt + n0.toInt ≤ (v0.1 5).toInt) (hs : SG v0 q n0) : ∀ (n : Nat) (v : Md) (z5 z : Int32), 0 ≤ z.toInt → z.toInt ≤ W → WI v0 f q n0 K v z.toInt.toNat → wp_X7_wantsSigns_L6 p7 e7 n v x q n0 0 z5 z → ∃ u z5' z', e7 u x q n0 0 z5' z' ∧ WI v0 f q n0 K u W.toNat := by
  have rn := rw_n hf
  have bx := hxx.2.2
  have e1 : (1 : Int32).toInt = 1 := rfl
  intro n
  induction n with
  | zero =>
    intro v z5 z _ _ _ h
    exact (show False from h).elim
  | succ n ih =>
    intro v z5 z h0 h1 hI h
    have I := hI
    obtain ⟨i1, i2, i3⟩ := hI
    unfold wp_X7_wantsSigns_L6 at h
    have w1 : v.2.2.1 0 1 = f 1 := i2 1 (fun j _ => by omega)
    have h := wide_e h
    rw [w1] at h
    by_cases c : Int64.toInt32 (f 1) ≤ z
    · have := q_le c
      refine ⟨v, z5, z, h.1 c, ?_⟩
      rw [show W.toNat = z.toInt.toNat by omega]
      exact I
    · have c1 := q_nle c
      have h := wide_e (h.2 c)
      rw [w1] at h
      have m1 := tq_mul (Int64.toInt32 (f 1)) x
      rw [rn.2.1, Int.mul_comm, hK] at m1
      have m1 := nw m1 (by omega)
      have m2 := nw (tq_add (Int64.toInt32 (f 1) * x) z) (by omega)
      have a := nw (tq_addr e1 z) (by omega)
      have z1 : (z + 1).toInt.toNat = z.toInt.toNat + 1 := by omega
      have kz : ((z.toInt.toNat : Nat) : Int) = z.toInt := by omega
      have en : (Int64.toInt32 (f 1) * x + z).toInt.toNat = K + z.toInt.toNat := by omega
      have put : ∀ {r : Int32}, VW f v0 q n0 (K + z.toInt.toNat) z.toInt.toNat r → wp_X7_wantsFlap (fun u_8 => wp_X7_wantsSigns_L6 p7 e7 n u_8 x q n0 0 z5 (z + 1)) v (Int64.toInt32 (f 1) * x + z) r 0 → ∃ u z5' z', e7 u x q n0 0 z5' z' ∧ WI v0 f q n0 K u W.toNat := by
        intro r hr h
        unfold wp_X7_wantsFlap at h
        obtain ⟨u, k1, k2, k3⟩ := e7_sets (i := 3) (by omega) (by omega) rfl (by decide) h
        rw [en] at k3
        refine ih u z5 (z + 1) (by omega) (by omega) ?_ (k1.1 rfl)
        rw [z1]
        refine WI_on I k2 (fun i hi => ?_) ?_
        · rw [k3]
          exact uL_n hi
        · rw [k3, uL_e, t32_64]
          exact hr
      by_cases g : n0 ≤ z
      · have g1 := q_le g
        exact put (Or.inr ⟨by omega, rfl⟩) (h.1 g)
      · have g1 := q_nle g
        have h := (h.2 g).2
        have rs : RS f (v.2.2.1 0) (Int64.toInt32 (f 1) * x + z).toInt.toNat := by
          rw [en]
          exact ⟨fun i hi => i2 i (fun j _ => by omega), i2 _ (fun j _ => by omega), i2 _ (fun j _ => by omega), i2 _ (fun j _ => by omega)⟩
        obtain ⟨r, p, nv⟩ := near7 hf hD rs (by omega) (by omega) h
        rw [en] at nv
        have sg : v.2.2.2 2 (Int32.toNatClampNeg (q + z)) = tb7 v0 (q + nI z.toInt.toNat) := by
          rw [tb_sg hxx hs hq hqn (k := z.toInt.toNat) (by omega), nI_tn h0, i1.2.2.2]
        rw [sg] at nv
        by_cases y : r = -1
        · have p := p.2 y
          refine ih v (z5 + 1) (z + 1) (by omega) (by omega) ?_ p
          rw [z1]
          refine WI_on I (FN_rf v) (fun i _ => rfl) ?_
          rw [i2 _ (fun j _ => by omega)]
          exact Or.inl ⟨by omega, r, nv, Or.inl ⟨y, rfl⟩⟩
        · exact put (Or.inl ⟨by omega, r, nv, Or.inr ⟨y, rfl⟩⟩) (p.1 y)
def YI (v1 : Md) (K : Nat) (v : Md) (k : Nat) : Prop := FN v1 v ∧ (∀ i : Nat, (∀ j : Nat, j < k → ¬ i = 176 + 8 * (K + j) + 1 ∧ ¬ i = 176 + 8 * (K + j) + 2) → v.2.2.1 0 i = v1.2.2.1 0 i) ∧ (∀ j : Nat, j < k → Int64.toInt32 (v.2.2.1 0 (176 + 8 * (K + j) + 1)) = Int64.toInt32 (v1.2.2.1 0 (176 + 8 * (K + j) + 3)) ∧ Int64.toInt32 (v.2.2.1 0 (176 + 8 * (K + j) + 2)) = Int64.toInt32 (v1.2.2.1 0 (176 + 8 * (K + j) + 3)))
theorem e7_show_L {v1 : Md} {W : Int} {x : Int32} {K : Nat} {p7 : Int32 → Md → Prop} {e7 : Md → Int32 → Int32 → Int32 → Prop} (hW : (Int64.toInt32 (v1.2.2.1 0 1)).toInt = W) (hK : x.toInt * W = (K : Int)) (hK2 : (K : Int) + W ≤ 40) : ∀ (n : Nat) (v : Md) (z2 z : Int32), 0 ≤ z.toInt → z.toInt ≤ W → YI v1 K v z.toInt.toNat → wp_X7_readsRow_L62 p7 e7 n v x z2 z → ∃ u z', e7 u x z2 z' ∧ YI v1 K u W.toNat := by
  have e1 : (1 : Int32).toInt = 1 := rfl
  intro n
  induction n with
  | zero =>
    intro v z2 z _ _ _ h
    exact (show False from h).elim
  | succ n ih =>
    intro v z2 z h0 h1 hI h
    have I := hI
    obtain ⟨i1, i2, i3⟩ := hI
    unfold wp_X7_readsRow_L62 at h
    have w1 : v.2.2.1 0 1 = v1.2.2.1 0 1 := i2 1 (fun j _ => by omega)
    have h := wide_e h
    rw [w1] at h
    by_cases c : Int64.toInt32 (v1.2.2.1 0 1) ≤ z
    · have := q_le c
      refine ⟨v, z, h.1 c, ?_⟩
      rw [show W.toNat = z.toInt.toNat by omega]
      exact I
    · have c1 := q_nle c
      have h := wide_e (h.2 c)
      rw [w1] at h
      have m1 := tq_mul (Int64.toInt32 (v1.2.2.1 0 1)) x
      rw [hW, Int.mul_comm, hK] at m1
      have m1 := nw m1 (by omega)
      have m2 := nw (tq_add (Int64.toInt32 (v1.2.2.1 0 1) * x) z) (by omega)
      have a := nw (tq_addr e1 z) (by omega)
      have z1 : (z + 1).toInt.toNat = z.toInt.toNat + 1 := by omega
      have en : (Int64.toInt32 (v1.2.2.1 0 1) * x + z).toInt.toNat = K + z.toInt.toNat := by omega
      have h := e7_of (i := 3) (by omega) (by omega) rfl (by decide) h
      obtain ⟨u, h, k2, k3⟩ := e7_sets (i := 1) (by omega) (by omega) rfl (by decide) h
      have h := e7_of (i := 3) (by omega) (by omega) rfl (by decide) h
      obtain ⟨w, h, k5, k6⟩ := e7_sets (i := 2) (by omega) (by omega) rfl (by decide) h
      rw [en] at k3 k6
      have o3 : v.2.2.1 0 (176 + 8 * (K + z.toInt.toNat) + 3) = v1.2.2.1 0 (176 + 8 * (K + z.toInt.toNat) + 3) := i2 _ (fun j _ => by omega)
      have u3 : u.2.2.1 0 (176 + 8 * (K + z.toInt.toNat) + 3) = v1.2.2.1 0 (176 + 8 * (K + z.toInt.toNat) + 3) := by
        rw [k3, uL_n (by omega)]
        exact o3
      rw [u3] at k6
      rw [o3] at k3
      refine ih w z2 (z + 1) (by omega) (by omega) ?_ h
      rw [z1]
      refine ⟨FN_tr i1 (FN_tr k2 k5), fun i hi => ?_, fun j hj => ?_⟩
      · have hk := hi z.toInt.toNat (by omega)
        rw [k6, uL_n hk.2, k3, uL_n hk.1]
        exact i2 i (fun j hj => hi j (by omega))
      · by_cases g : j = z.toInt.toNat
        · subst g
          constructor
          · rw [k6, uL_n (by omega), k3, uL_e, t32_64]
          · rw [k6, uL_e, t32_64]
        · constructor
          · rw [k6, uL_n (by omega), k3, uL_n (by omega)]
            exact (i3 j (by omega)).1
          · rw [k6, uL_n (by omega), k3, uL_n (by omega)]
            exact (i3 j (by omega)).2
theorem sm_readRow {P6 : Bd → Tp → Prop} {P7 : Int32 → Md → Prop} {b : Bd} {t : Tp} {v : Md} {R W D : Int} (hR : RT t ((va_up v.1 6 ((v.1 6) + 3)), v.2.1, v.2.2.1, v.2.2.2)) (hB : RB b (v.2.2.1 0)) (hf : rw_ok R W D (v.2.2.1 0)) (hD : 0 < D) (h6 : wp_X1_readRow P6 b t) (h7 : wp_X7_readsRow P7 v) : ∃ b' t' r v', P6 b' t' ∧ P7 r v' ∧ OUT b' t' r v' := by
  have rn := rw_n hf
  have e1 : (1 : Int32).toInt = 1 := rfl
  have e0 : (0 : Int32).toInt = 0 := rfl
  unfold wp_X1_readRow at h6
  unfold wp_X7_readsRow at h7
  have h7 := rows_e h7
  have h7 : wp_X7_readsNumber _ _ (0 : Int32) (Int64.toInt32 (v.2.2.1 0 0) - 1) := h7
  have s1 := nw (tq_subr e1 (Int64.toInt32 (v.2.2.1 0 0))) (by omega)
  rw [hB.1.1, hB.1.2.1] at h6
  obtain ⟨r1, u1, r7, v1, a1, a2, a3, a4⟩ := sm_number hR (by decide) (by omega) h6 h7
  rcases a4 with ⟨rfl, a4, a5, a6, a7, _⟩ | ⟨rfl, a4⟩
  · have fv1 : v1.2 = v.2 := a3.2.2.2
    have h7 := wide_e (a2.1 (by decide))
    rw [fv1, ← a5] at h7
    rw [e0] at a6
    obtain ⟨u2, r8, v2, b1, b2, b3, b4⟩ := sm_quoted a4 (by decide) (by omega) (by omega) a1 h7
    have fv2 : v2.2 = v.2 := b3.2.2.2.trans fv1
    rcases b4 with ⟨rfl, b4, c1, c2, c3, c4, c5, c6, c7⟩ | ⟨rfl, b4⟩
    · have k6 := ((e5_isSound b1).1 b4.2.2.2.2).2 (by decide)
      have k7 := b2.1 (by decide)
      rw [c1, c2] at k6
      rw [e0] at c3
      have bb := b4.1.2.2
      obtain ⟨K, hK⟩ : ∃ K : Nat, r1.toInt * W = (K : Int) := ⟨(r1.toInt * W).toNat, by
        have := Int.mul_nonneg a6 (show 0 ≤ W by omega)
        omega⟩
      have hK2 : (K : Int) + W ≤ R * W := by
        rw [← hK, show r1.toInt * W + W = (r1.toInt + 1) * W by rw [Int.add_mul, Int.one_mul]]
        exact Int.mul_le_mul_of_nonneg_right (by omega) (by omega)
      -- the class
      unfold wp_X0_showSigns at k6
      obtain ⟨n6, k6⟩ := k6
      have bW : (b.1 1).toInt = W := by rw [hB.1.2.1]; exact rn.2.1
      obtain ⟨w, d1, d2⟩ := e0_show_L (K := K) hf hD hB b4.1 bW hK hK2 (by omega) n6 b 0 (by decide) (by omega) ⟨rfl, fun _ _ => rfl, rfl, fun _ _ _ => rfl, fun i hi => by
        have : i < 0 := hi
        omega⟩ k6
      -- the reference
      unfold wp_X7_wantsSigns at k7
      obtain ⟨n7, k7⟩ := k7
      have fr : v2.2.2.1 0 = v.2.2.1 0 := by rw [fv2]
      obtain ⟨y, z5, z, g1, g2⟩ := e7_wants_L (f := v.2.2.1 0) (K := K) hf hD b4.1 hK hK2 c5 (by omega) c6.1 c7 n7 v2 0 0 (by decide) (by omega) ⟨FN_rf v2, fun i _ => by rw [fr], fun j hj => by
        have : j < 0 := hj
        omega⟩ k7
      obtain ⟨n8, g1⟩ := g1
      have yW : (Int64.toInt32 (y.2.2.1 0 1)).toInt = W := by
        rw [g2.2.1 1 (fun j _ => by omega)]
        exact rn.2.1
      obtain ⟨y2, z2, j1, j2⟩ := e7_show_L (v1 := y) (K := K) yW hK (by omega) n8 y _ 0 (by decide) (by omega) ⟨FN_rf y, fun _ _ => rfl, fun j hj => by
        have : j < 0 := hj
        omega⟩ g1
      refine ⟨w, u2, 1, y2, d1, j1, Or.inl ⟨rfl, RT_fn b4 (FN_tr g2.1 j2.1), ?_⟩⟩
      obtain ⟨x1, x2, x3, x4, x5⟩ := d2
      obtain ⟨_, y3, y4⟩ := g2
      obtain ⟨_, w3, w4⟩ := j2
      have low : ∀ i : Nat, i < 176 → y2.2.2.1 0 i = v.2.2.1 0 i := fun i hi => by
        rw [w3 i (fun j _ => by omega), y3 i (fun j _ => by omega)]
      obtain ⟨p0, p1, p2⟩ := hB
      refine ⟨by rw [x1, low 0 (by decide), low 1 (by decide), low 2 (by decide), low 3 (by decide)]; exact p0, ⟨by rw [low 3 (by decide), low 0 (by decide), low 1 (by decide)]; exact p1.1, fun e he => ?_⟩, fun c hc => ?_⟩
      · rw [low 3 (by decide)] at he
        have q0 := p1.1
        obtain ⟨q4, q1, q2, q3⟩ := p1.2 e he
        have q40 := q4.1
        have ed : d_f (y2.2.2.1 0) e = d_f (v.2.2.1 0) e := by
          unfold d_f
          rw [low _ (by omega)]
        rw [ed, x2 0 (by decide), x2 1 (by decide), x2 2 (by decide), low (8 + 42 * e) (by omega), low (8 + 42 * e + 1) (by omega)]
        refine ⟨DG_k q4 (fun i h1 h2 => low i (by omega)), q1, q2, fun k hk => ?_⟩
        rw [low _ (by omega)]
        exact q3 k hk
      · rw [low 0 (by decide), low 1 (by decide)] at hc
        obtain ⟨q1, q2⟩ := p2 c hc
        rw [hf.1, hf.2.1] at hc
        by_cases rg : K ≤ c ∧ (c : Int) < (K : Int) + W
        · obtain ⟨i, hi⟩ : ∃ i : Nat, c = K + i := ⟨c - K, by omega⟩
          subst hi
          obtain ⟨s1, s2, s3⟩ := x5 i (by omega)
          have t1 := y4 i (by omega)
          obtain ⟨t2, t3⟩ := w4 i (by omega)
          have ew : w.2.1 6 (K + i) = Int64.toInt32 (y.2.2.1 0 (176 + 8 * (K + i) + 3)) := VW_u (s := v2) hf hD hc s1 t1
          have k3 : y2.2.2.1 0 (176 + 8 * (K + i) + 3) = y.2.2.1 0 (176 + 8 * (K + i) + 3) := w3 _ (fun j _ => by omega)
          have old : ∀ j : Nat, j = 0 ∨ (4 ≤ j ∧ j < 8) → y2.2.2.1 0 (176 + 8 * (K + i) + j) = v.2.2.1 0 (176 + 8 * (K + i) + j) := fun j hj => by
            rw [w3 _ (fun j2 _ => by omega), y3 _ (fun j2 _ => by omega)]
          refine ⟨fun j hj => ?_, ?_⟩
          · rcases (show j = 0 ∨ j = 1 ∨ j = 2 ∨ j = 3 ∨ j = 4 ∨ j = 5 ∨ j = 6 by omega) with rfl | rfl | rfl | rfl | rfl | rfl | rfl
            · rw [old 0 (Or.inl rfl), x2 3 (by decide)]
              exact q1 0 (by decide)
            · show w.2.1 4 (K + i) = _
              rw [t2, s2, ew]
            · show w.2.1 5 (K + i) = _
              rw [t3, s3, ew]
            · show w.2.1 6 (K + i) = _
              rw [k3, ew]
            · rw [old 4 (by omega), x2 7 (by decide)]
              exact q1 4 (by decide)
            · rw [old 5 (by omega), x2 8 (by decide)]
              exact q1 5 (by decide)
            · rw [old 6 (by omega), x2 9 (by decide)]
              exact q1 6 (by decide)
          · rw [old 7 (by omega), x3]
            exact q2
        · have old : ∀ j : Nat, j < 8 → y2.2.2.1 0 (176 + 8 * c + j) = v.2.2.1 0 (176 + 8 * c + j) := fun j hj => by
            rw [w3 _ (fun j2 _ => by omega), y3 _ (fun j2 _ => by omega)]
          refine ⟨fun j hj => ?_, ?_⟩
          · rw [old j (by omega), x4 c (by omega)]
            exact q1 j hj
          · rw [old 7 (by omega), x3]
            exact q2
    · exact ⟨b, u2, 0, v2, (fa_sound b4 b1).1 rfl, b2.2 rfl, Or.inr ⟨rfl, b4⟩⟩
  · obtain ⟨u2, b1, b4⟩ := fa_quo a4 a1
    exact ⟨b, u2, 0, v1, (fa_sound b4 b1).1 rfl, a2.2 rfl, Or.inr ⟨rfl, b4⟩⟩

/-! One part; all of a board's text. -/
theorem e7_y {P : Int32 → Md → Prop} {i : Nat} {v : Md} (hs : (v.1 6).toInt ≤ (v.1 5).toInt) (hb : ¬ tb7 v (v.1 6) = 32) (hw : wd_y v i) (h : wp_X7_isWord P v i) : P 1 v := by
  rcases e7_isWord hs hb h with ⟨a, _⟩ | ⟨_, b⟩
  · exact a
  · exact absurd hw b
theorem e7_no {P : Int32 → Md → Prop} {i : Nat} {v : Md} (hs : (v.1 6).toInt ≤ (v.1 5).toInt) (hb : ¬ tb7 v (v.1 6) = 32) (hw : ¬ wd_y v i) (h : wp_X7_isWord P v i) : P 0 v := by
  rcases e7_isWord hs hb h with ⟨_, b⟩ | ⟨a, _⟩
  · exact absurd b hw
  · exact a
theorem sm_part {P6 : Bd → Tp → Prop} {P7 : Int32 → Md → Prop} {b : Bd} {t : Tp} {s : Md} {R W D : Int} (hR : RT t s) (hB : RB b (s.2.2.1 0)) (hf : rw_ok R W D (s.2.2.1 0)) (h6 : wp_X1_readPart P6 b t) (h7 : wp_X7_nextByte (fun _ u => wp_X7_readsPart P7 u) s) : ∃ b' t' r v', P6 b' t' ∧ P7 r v' ∧ OUT b' t' r v' := by
  have rn := rw_n hf
  unfold wp_X1_readPart wp_X5_takeWord at h6
  obtain ⟨u, v, a1, a2, a3, a4, a5, a6, _⟩ := sm_peek hR h6 h7
  obtain ⟨n6, a1⟩ := a1
  obtain ⟨r, w, h6, fr, cw⟩ := sm_word_core a3 a1
  have CWr := cw
  obtain ⟨c1, c2, c3, c4, c5, c6, c7, c8⟩ := cw
  have fv : v.2 = s.2 := a4.2.2.2
  have hBv : RB b (v.2.2.1 0) := by rw [fv]; exact hB
  have hfv : rw_ok R W D (v.2.2.1 0) := by rw [fv]; exact hf
  have rv := rw_n hfv
  have bb := c1.2.2
  have d6 : b.1 3 = Int64.toInt32 (v.2.2.1 0 3) := hBv.1.2.2.2
  have td : (b.1 3).toInt = D := by rw [d6]; exact rv.2.2.1
  have e0 : (0 : Int32).toInt = 0 := rfl
  have e3 : (3 : Int32).toInt = 3 := rfl
  have e4 : (4 : Int32).toInt = 4 := rfl
  have e5 : (5 : Int32).toInt = 5 := rfl
  have e6 : (6 : Int32).toInt = 6 := rfl
  have e7 : (7 : Int32).toInt = 7 := rfl
  unfold wp_X7_readsPart at a2
  have nt : ∀ {i j : Nat}, i < 12 → j < 12 → ¬ i = j → wd_y v j → ¬ wd_y v i := fun {i j} hi hj hn g g2 => by
    have := (c7 i hi).mpr g2
    have := (c7 j hj).mpr g
    omega
  have flt : ∀ {kk : Int32} {Q : Int32 → Md → Prop} {E6 : Tp → Prop}, 1 ≤ kk.toInt → kk.toInt ≤ 4 → wp_X5_blame (fun u_5 => wp_X5_isSound (fun r_6 => ((¬ r_6 = 0 → E6 u_5) ∧ (r_6 = 0 → P6 b u_5))) u_5) w (w.1 2) kk → wp_X7_fails (fun r_33 u_34 => narrow .boolean (.int r_33) = .int r_33 ∧ P7 r_33 u_34) v kk (v.1 6) → ∃ b' t' r v', P6 b' t' ∧ P7 r v' ∧ OUT b' t' r v' := by
    intro kk Q E6 g1 g2 k6 k7
    obtain ⟨x, y, b1, b2, b3, b4⟩ := sm_fault c5 c2 c3 (by omega) g1 g2 k6 k7
    exact ⟨b, x, 0, y, (fa_sound b4 b1).2 rfl, b2.2, Or.inr ⟨rfl, b4⟩⟩
  have eq : ∀ {k : Int32}, r.toInt = k.toInt → r = k := fun {k} g => Int32.toInt_inj.mp g
  have snd : ∀ {Q : Prop} {E6 : Prop}, wp_X5_isSound (fun r_6 => ((¬ r_6 = 0 → E6) ∧ (r_6 = 0 → P6 b w))) w → E6 := fun {Q E6} k => ((e5_isSound k).1 c5).1 (by decide)
  by_cases w2 : wd_y v 2
  · have rr : r.toInt = 3 := (c7 2 (by decide)).mpr w2
    have er : r = 3 := eq (by omega)
    have k7 := (e7_y c4 a5 w2 a2).2 (by decide)
    have k6 := ((h6.2 (fun g => by have := q_lt g; omega)).1 (Int32.le_iff_toInt_le.mpr (by omega))).2 er
    by_cases q4 : b.1 3 = 4
    · have k6 := k6.2 q4
      unfold wp_X7_readsDrum at k7
      have k7 := (drums_e k7).2 (by rw [← d6]; exact q4)
      unfold wp_X7_fails at k7
      have k7 : narrow .boolean (.int 0) = .int 0 ∧ narrow .boolean (.int 0) = .int 0 ∧ P7 0 ((va_up v.1 7 ((8 * (v.1 6)) + 3)), v.2.1, v.2.2.1, v.2.2.2) := k7
      refine flt (Q := P7) (kk := 3) (by decide) (by decide) k6 ?_
      unfold wp_X7_fails
      exact k7.2
    · have k6 := (snd (Q := True) (k6.1 q4)).1 er
      have n4 : ¬ D = 4 := fun g => q4 (Int32.toInt_inj.mp (by omega))
      obtain ⟨b', t', r', v', g1, g2, g3⟩ := sm_readDrum (RT_word (by decide) CWr w2 rfl) hBv hfv (by omega) k6 k7
      exact ⟨b', t', r', v', g1, g2.2, g3⟩
  · have h7 := (e7_no c4 a5 w2 a2).1 rfl
    have n3 : ¬ r = 3 := fun g => w2 ((c7 2 (by decide)).mp (by rw [g]; rfl))
    by_cases w3 : wd_y v 3
    · have rr : r.toInt = 4 := (c7 3 (by decide)).mpr w3
      have er : r = 4 := eq (by omega)
      have h7 := drums_e ((e7_y c4 a5 w3 h7).1 (by decide))
      have k6 := ((h6.2 (fun g => by have := q_lt g; omega)).1 (Int32.le_iff_toInt_le.mpr (by omega))).1 n3
      rw [← d6] at h7
      by_cases q0 : b.1 3 = 0
      · exact flt (Q := P7) (kk := 3) (by decide) (by decide) (k6.2 q0) (h7.2 q0)
      · have k7 := (e7_y c4 a5 w3 (h7.1 q0)).2 (by decide)
        have k6 := ((snd (Q := True) (k6.1 q0)).2 n3).1 er
        obtain ⟨b', t', r', v', g1, g2, g3⟩ := sm_readCells (RT_word (by decide) CWr w3 rfl) hBv hfv k6 k7
        exact ⟨b', t', r', v', g1, g2.2, g3⟩
    · have h7 := (e7_no c4 a5 w3 h7).2 rfl
      have n4 : ¬ r = 4 := fun g => w3 ((c7 3 (by decide)).mp (by rw [g]; rfl))
      by_cases w4 : wd_y v 4
      · have rr : r.toInt = 5 := (c7 4 (by decide)).mpr w4
        have er : r = 5 := eq (by omega)
        have h7 := drums_e ((e7_y c4 a5 w4 h7).1 (by decide))
        have k6 := ((h6.2 (fun g => by have := q_lt g; omega)).1 (Int32.le_iff_toInt_le.mpr (by omega))).1 n3
        rw [← d6] at h7
        by_cases q0 : b.1 3 = 0
        · exact flt (Q := P7) (kk := 3) (by decide) (by decide) (k6.2 q0) (h7.2 q0)
        · have pD : 0 < D := by
            have : ¬ D = 0 := fun g => q0 (Int32.toInt_inj.mp (by omega))
            omega
          have k7 := (e7_y c4 a5 w4 ((e7_no c4 a5 w3 (h7.1 q0)).1 rfl)).2 (by decide)
          have k6 := (((snd (Q := True) (k6.1 q0)).2 n3).2 n4).1 er
          obtain ⟨b', t', r', v', g1, g2, g3⟩ := sm_readWorn (RT_word (by decide) CWr w4 rfl) hBv hfv pD k6 k7
          exact ⟨b', t', r', v', g1, g2.2, g3⟩
      · have h7 := (e7_no c4 a5 w4 h7).2 rfl
        have n5 : ¬ r = 5 := fun g => w4 ((c7 4 (by decide)).mp (by rw [g]; rfl))
        by_cases w5 : wd_y v 5
        · have rr : r.toInt = 6 := (c7 5 (by decide)).mpr w5
          have er : r = 6 := eq (by omega)
          have h7 := drums_e ((e7_y c4 a5 w5 h7).1 (by decide))
          have k6 := ((h6.2 (fun g => by have := q_lt g; omega)).1 (Int32.le_iff_toInt_le.mpr (by omega))).1 n3
          rw [← d6] at h7
          by_cases q0 : b.1 3 = 0
          · exact flt (Q := P7) (kk := 3) (by decide) (by decide) (k6.2 q0) (h7.2 q0)
          · have pD : 0 < D := by
              have : ¬ D = 0 := fun g => q0 (Int32.toInt_inj.mp (by omega))
              omega
            have k7 := (e7_y c4 a5 w5 ((e7_no c4 a5 w4 ((e7_no c4 a5 w3 (h7.1 q0)).1 rfl)).1 rfl)).2 (by decide)
            have k6 := ((((snd (Q := True) (k6.1 q0)).2 n3).2 n4).2 n5).1 er
            obtain ⟨b', t', r', v', g1, g2, g3⟩ := sm_readRow (RT_word (by decide) CWr w5 rfl) hBv hfv pD k6 k7
            exact ⟨b', t', r', v', g1, g2.2, g3⟩
        · have h7 := (e7_no c4 a5 w5 h7).2 rfl
          have n6' : ¬ r = 6 := fun g => w5 ((c7 5 (by decide)).mp (by rw [g]; rfl))
          by_cases w6 : wd_y v 6
          · have rr : r.toInt = 7 := (c7 6 (by decide)).mpr w6
            have h7 := drums_e ((e7_y c4 a5 w6 h7).2 (by decide))
            have k6 := ((h6.2 (fun g => by have := q_lt g; omega)).1 (Int32.le_iff_toInt_le.mpr (by omega))).1 n3
            rw [← d6] at h7
            by_cases q0 : b.1 3 = 0
            · exact flt (Q := P7) (kk := 3) (by decide) (by decide) (k6.2 q0) (h7.2 q0)
            · have k7 := (e7_no c4 a5 w5 ((e7_no c4 a5 w4 ((e7_no c4 a5 w3 (h7.1 q0)).1 rfl)).1 rfl)).1 rfl
              have k6 := ((((snd (Q := True) (k6.1 q0)).2 n3).2 n4).2 n5).2 n6'
              exact sm_readLose (RT_word (by decide) CWr w6 rfl) hBv hfv k6 k7
          · have h7 := (e7_no c4 a5 w6 h7).1 rfl
            have n7 : ¬ r.toInt = 7 := fun g => w6 ((c7 6 (by decide)).mp g)
            have nn : r.toInt < 3 ∨ 7 < r.toInt := by
              have : ¬ r.toInt = 3 := fun g => n3 (eq (by omega))
              have : ¬ r.toInt = 4 := fun g => n4 (eq (by omega))
              have : ¬ r.toInt = 5 := fun g => n5 (eq (by omega))
              have : ¬ r.toInt = 6 := fun g => n6' (eq (by omega))
              omega
            by_cases q3 : r < 3
            · exact flt (Q := P7) (kk := 1) (by decide) (by decide) (h6.1 q3) h7
            · have q3' := q_nlt q3
              exact flt (Q := P7) (kk := 1) (by decide) (by decide) ((h6.2 q3).2 (fun g => by have := q_le g; omega)) h7

/-! All of a board's text. -/
theorem dt_mono {O : Type} {F : (O → Prop) → Prop} (h : dt F F) {P Q : O → Prop} (a : F P) (b : ∀ o, P o → Q o) : F Q := by
  obtain ⟨o, p, w, _⟩ := h P a
  exact w Q (b o p)
theorem dm2 {A B : Type} {F : (A → B → Prop) → Prop} (h : dt (fun P : A × B → Prop => F (fun a b => P (a, b))) (fun P : A × B → Prop => F (fun a b => P (a, b)))) {P Q : A → B → Prop} (a : F P) (b : ∀ x y, P x y → Q x y) : F Q := dt_mono h (P := fun o => P o.1 o.2) (Q := fun o => Q o.1 o.2) a (fun o => b o.1 o.2)
theorem cj2 {A B : Type} {F : (A → B → Prop) → Prop} (h : dt (fun P : A × B → Prop => F (fun a b => P (a, b))) (fun P : A × B → Prop => F (fun a b => P (a, b)))) {P Q : A → B → Prop} (a : F P) (b : F Q) : F (fun x y => P x y ∧ Q x y) := dt_conj h (P := fun o => P o.1 o.2) (Q := fun o => Q o.1 o.2) a b
theorem mb_row {N R W D R2 W2 D2 : Int} {s t : Md} (h : mb N R W D s) (h5 : t.1 5 = s.1 5) (h0 : t.1 0 = s.1 0) (h2 : ∀ k, ¬ k = 0 → t.2.2.1 k = s.2.2.1 k) (h3 : t.2.2.2 0 = s.2.2.2 0) (hr : rw_ok R2 W2 D2 (t.2.2.1 0)) : mb N R2 W2 D2 t := by
  obtain ⟨a0, a1, a2, a3, a4, a5, a6, a7⟩ := h
  refine ⟨by rw [h5]; exact a0, by rw [h0]; exact a1, a2, hr.2.2.2.2.2.1, hr, ?_, ?_, ?_⟩
  · rw [h0, h2 1 (by decide)]
    exact a5
  · rw [h3, h2 2 (by decide)]
    exact a6
  · rw [h2 3 (by decide)]
    exact a7
theorem e5_peek {P : Int32 → Tp → Prop} {t : Tp} (h0 : 0 ≤ (t.1 1).toInt) (hb : ¬ tb5 t (t.1 1) = 32) (h : wp_X5_peek P t) : P (tb5 t (t.1 1)) t := by
  unfold wp_X5_peek at h
  obtain ⟨n, h⟩ := h
  cases n with
  | zero => exact (show False from h).elim
  | succ n =>
    unfold wp_X5_peek_L0 at h
    by_cases c : t.1 0 ≤ t.1 1
    · have e : tb5 t (t.1 1) = -1 := by
        unfold tb5
        rw [if_pos c]
      rw [e]
      exact (h.1 c).1 c
    · have e : tb5 t (t.1 1) = t.2 (Int32.toNatClampNeg (t.1 1)) := by
        unfold tb5
        rw [if_neg c]
      rw [e] at hb ⊢
      exact (((h.2 c).2.1 hb).2 c).2
theorem fa_part {P6 : Bd → Tp → Prop} {b : Bd} {t : Tp} {v : Md} (hf : FL t v) (h : wp_X1_readPart P6 b t) : ∃ u, P6 b u ∧ FL u v := by
  unfold wp_X1_readPart at h
  obtain ⟨r, u, h, f⟩ := fa_takeWord hf h
  refine ⟨u, ?_, f⟩
  by_cases c : r < 3
  · have k := fa_blame f (h.1 c)
    exact (fa_sound f k).2 rfl
  · have h := h.2 c
    by_cases d : r ≤ 7
    · have h := h.1 d
      by_cases e : r = 3
      · have h := h.2 e
        by_cases g : b.1 3 = 4
        · have k := fa_blame f (h.2 g)
          exact (fa_sound f k).2 rfl
        · exact (fa_sound f (h.1 g)).2 rfl
      · have h := h.1 e
        by_cases g : b.1 3 = 0
        · have k := fa_blame f (h.2 g)
          exact (fa_sound f k).2 rfl
        · exact (fa_sound f (h.1 g)).2 rfl
    · have k := fa_blame f (h.2 d)
      exact (fa_sound f k).2 rfl
/-- what the reading of a board ends in -/
def OUTB (b : Bd) (t : Tp) (r : Int32) (v : Md) : Prop := (r = 1 ∧ t.1 5 = 0 ∧ RB b (v.2.2.1 0) ∧ 0 < (b.1 3).toInt) ∨ (r = 0 ∧ FL t v)
def E6 (P6 : Bd → Tp → Prop) (b : Bd) (t : Tp) : Prop := ((¬ (b.1 3) = 0 → P6 b t) ∧ ((b.1 3) = 0 → wp_X5_blame (fun u_20 => P6 b u_20) t (t.1 0) (4 : Int32)))
def E7 (P7 : Int32 → Md → Prop) (v : Md) : Prop := wp_X7_nextByte (fun r_28 u_29 => ((r_28 = (-1) → wp_X7_drums (fun r_31 => ((0 < r_31 → P7 1 u_29) ∧ (¬ 0 < r_31 → wp_X7_fails (fun r_34 u_35 => ((r_34 = 0 → P7 0 u_35) ∧ (¬ r_34 = 0 → P7 1 u_35))) u_29 (4 : Int32) (u_29.1 5)))) u_29) ∧ (¬ r_28 = (-1) → wp_X7_fails (fun r_37 u_38 => narrow .boolean (.int r_37) = .int r_37 ∧ P7 r_37 u_38) u_29 (1 : Int32) (u_29.1 6)))) v
theorem fa_E6 {P6 : Bd → Tp → Prop} {b : Bd} {t : Tp} {v : Md} (hf : FL t v) (h : E6 P6 b t) : P6 b t := by
  unfold E6 at h
  by_cases c : b.1 3 = 0
  · exact fa_blame hf (h.2 c)
  · exact h.1 c
theorem fa_L15 {P6 : Bd → Tp → Prop} {n : Nat} {b : Bd} {t : Tp} {v : Md} {z : Int32} (hf : FL t v) (h : wp_X1_readInto_L15 P6 (fun t0 t1 z2 => E6 P6 t0 t1) n b t z) : P6 b t := by
  cases n with
  | zero => exact (show False from h).elim
  | succ n =>
    unfold wp_X1_readInto_L15 at h
    by_cases c : 400 ≤ z
    · exact fa_E6 hf (h.1 c)
    · exact fa_E6 hf ((fa_sound hf (h.2 c)).1 rfl)
/-- at the text's end -/
theorem sm_end {P6 : Bd → Tp → Prop} {P7 : Int32 → Md → Prop} {b : Bd} {t : Tp} {v : Md} {R W D : Int} (hR : RT t v) (hB : RB b (v.2.2.1 0)) (hf : rw_ok R W D (v.2.2.1 0)) (hb : tb7 v (v.1 6) = -1) (h6 : E6 P6 b t) (h7 : E7 P7 v) : ∃ b' t' r v', P6 b' t' ∧ P7 r v' ∧ OUTB b' t' r v' := by
  have rn := rw_n hf
  have e0 : (0 : Int32).toInt = 0 := rfl
  have bb := hR.1.2.2
  have d6 : b.1 3 = Int64.toInt32 (v.2.2.1 0 3) := hB.1.2.2.2
  have td : (b.1 3).toInt = D := by rw [d6]; exact rn.2.2.1
  unfold E6 at h6
  unfold E7 at h7
  have h7 := drums_e ((e7_next (by rw [hb]; decide) h7).1 hb)
  rw [← d6] at h7
  by_cases c : b.1 3 = 0
  · have c0 := q_eq c
    obtain ⟨w, y, b1, b2, b3, b4⟩ := sm_fault hR.2.2.2.2 hR.1.1 bb.1 bb.2.1 (by decide) (by decide) (h6.2 c) (h7.2 (fun g => by have := q_lt g; omega))
    exact ⟨b, w, 0, y, b1, b2.1 rfl, Or.inr ⟨rfl, b4⟩⟩
  · have : ¬ D = 0 := fun g => c (Int32.toInt_inj.mp (by omega))
    exact ⟨b, t, 1, v, h6.1 c, h7.1 (Int32.lt_iff_toInt_lt.mpr (by omega)), Or.inl ⟨rfl, hR.2.2.2.2, hB, by omega⟩⟩
theorem rb_same {P7 : Int32 → Md → Prop} {f g : Md → Prop} : ∀ (n : Nat) (v : Md), wp_X7_readsBoard_L116b P7 f g n v → wp_X7_readsBoard_L116 P7 f g n v := by
  intro n
  induction n with
  | zero =>
    intro v h
    exact (show False from h).elim
  | succ n ih =>
    intro v h
    unfold wp_X7_readsBoard_L116b at h
    unfold wp_X7_readsBoard_L116
    refine dm2 (F := fun k => wp_X7_nextByte k v) (dt_X7_nextByte v) h (fun r u h => ⟨h.1, fun c => ?_⟩)
    refine dm2 (F := fun k => wp_X7_nextByte k ((va_up u.1 6 ((u.1 6) + 1)), u.2.1, u.2.2.1, u.2.2.2)) (dt_X7_nextByte _) (h.2 c) (fun r2 u2 h => ?_)
    exact dm2 (F := fun k => wp_X7_readsPart k u2) (dt_X7_readsPart u2) h (fun r3 u3 h => ⟨fun d => ih _ (h.1 d), h.2⟩)
theorem sm_board_L {P6 : Bd → Tp → Prop} {P7 : Int32 → Md → Prop} {N R W : Int} (hR1 : 1 ≤ R) : ∀ (n6 n7 : Nat) (b : Bd) (t : Tp) (v : Md) (z : Int32) (D : Int), RT t v → RB b (v.2.2.1 0) → mb N R W D v → 1 ≤ (v.2.2.1 0 2).toInt → 0 ≤ z.toInt → z.toInt ≤ (v.1 6).toInt → wp_X1_readInto_L15 P6 (fun t0 t1 z2 => E6 P6 t0 t1) n6 b t z → wp_X7_readsBoard_L116 P7 (fun t0 => P7 0 t0) (fun t0 => E7 P7 t0) n7 v → ∃ b' t' r v', P6 b' t' ∧ P7 r v' ∧ OUTB b' t' r v' := by
  have e1 : (1 : Int32).toInt = 1 := rfl
  have e400 : (400 : Int32).toInt = 400 := rfl
  intro n6
  induction n6 with
  | zero =>
    intro n7 b t v z D _ _ _ _ _ _ h
    exact (show False from h).elim
  | succ n6 ih =>
    intro n7 b t v z D hR hB hM hl h0 h1 h6 h7
    cases n7 with
    | zero => exact (show False from h7).elim
    | succ n7 =>
      have rw0 := hM.2.2.2.2.1
      have bb := hR.1.2.2
      have bc := hR.2.2
      have n5 : (v.1 5).toInt = N := hM.1
      unfold wp_X1_readInto_L15 at h6
      unfold wp_X7_readsBoard_L116 at h7
      by_cases c : 400 ≤ z
      · have c1 := q_le c
        have hb : tb7 v (v.1 6) = -1 := by
          unfold tb7
          rw [if_pos (Int32.le_iff_toInt_le.mpr (by omega))]
        have k7 := (e7_next (by rw [hb]; decide) h7).1 (by rw [hb]; decide)
        exact sm_end hR hB rw0 hb (h6.1 c) k7
      · have c1 := q_nle c
        have k6 := ((e5_isSound (h6.2 c)).1 hR.2.2.2.2).2 (by decide)
        obtain ⟨u, w, a1, a2, a3, a4, a5, a6, _⟩ := sm_peek hR k6 h7
        have fw : w.2 = v.2 := a4.2.2.2
        have hBw : RB b (w.2.2.1 0) := by rw [fw]; exact hB
        have hMw : mb N R W D w := mb_i hM (a4.2.2.1 5 (by decide)) (a4.2.2.1 0 (by decide)) (by rw [fw])
        have rww := hMw.2.2.2.2.1
        have bd := a3.1.2.2
        have be := a3.2.2
        have eb : tb5 u (u.1 1) = tb7 w (w.1 6) := by rw [a3.2.1]; exact tb_eq a3.1 _
        have p0 : 0 ≤ (u.1 1).toInt := by rw [a3.2.1]; omega
        by_cases m1 : tb7 w (w.1 6) = -1
        · exact sm_end a3 hBw rww m1 (a1.1 m1) (a2.1 (by rw [m1]; decide))
        · have k6 := a1.2 m1
          unfold wp_X5_takeByte at k6
          have k6 := e5_peek p0 (by rw [eb]; exact a5) k6
          rw [eb] at k6
          by_cases sc : tb7 w (w.1 6) = 59
          · have lt : (w.1 6).toInt < (w.1 5).toInt := tb7_lt (by rw [sc]; decide)
            have k6 := k6.2 sc
            have k7 := a2.2 sc
            have rs := RT_step a3 lt
            have as := nw (tq_addr e1 (w.1 6)) (by omega)
            have az := nw (tq_addr e1 z) (by omega)
            obtain ⟨x, hx⟩ : ∃ x : Md, x = ((va_up w.1 6 ((w.1 6) + 1)), w.2.1, w.2.2.1, w.2.2.2) := ⟨_, rfl⟩
            rw [← hx] at k7 rs
            have x6 : x.1 6 = w.1 6 + 1 := by rw [hx]; rfl
            have x6i := q_eq x6
            have hMx : mb N R W D x := mb_i hMw (by rw [hx]; rfl) (by rw [hx]; rfl) (by rw [hx])
            have hBx : RB b (x.2.2.1 0) := by rw [hx]; exact hBw
            have hlx : 1 ≤ (x.2.2.1 0 2).toInt := by
              rw [hx]
              show 1 ≤ (w.2.2.1 0 2).toInt
              rw [fw]
              exact hl
            have bx := rs.2.2
            have n5x : (x.1 5).toInt = N := hMx.1
            -- what is known of the reference's part by itself
            have k7 := cj2 (F := fun k => wp_X7_nextByte k x) (dt_X7_nextByte x) k7 (wq_X7_nextByte (post := fun r u => mb N R W D u ∧ (x.1 6).toInt ≤ (u.1 6).toInt ∧ (u.1 6).toInt ≤ N ∧ u.2 = x.2) hMx (by omega) (fun r u g1 g2 g3 g4 g5 g6 => ⟨g1, g3.1, g3.2, g5⟩))
            have k7 := dm2 (F := fun k => wp_X7_nextByte k x) (dt_X7_nextByte x) (Q := fun _ u => wp_X7_readsPart (fun r_25 u_26 => ((¬ r_25 = 0 → wp_X7_readsBoard_L116 P7 (fun t0 => P7 0 t0) (fun t0 => E7 P7 t0) n7 u_26) ∧ (r_25 = 0 → P7 0 u_26)) ∧ ∃ D4, mb N R W D4 u_26 ∧ (r_25.toInt = 0 ∨ 0 < D4) ∧ (x.1 6).toInt ≤ (u_26.1 6).toInt) u) k7 (fun r u h => by
              obtain ⟨h, g1, g2, g3, g4⟩ := h
              exact cj2 (F := fun k => wp_X7_readsPart k u) (dt_X7_readsPart u) (Q := fun r_25 u_26 => ∃ D4, mb N R W D4 u_26 ∧ (r_25.toInt = 0 ∨ 0 < D4) ∧ (x.1 6).toInt ≤ (u_26.1 6).toInt) h (wq_X7_readsPart g1 hR1 (by rw [g4]; exact hlx) (by omega) (fun r u D4 q1 q2 q3 q4 => ⟨D4, q1, q4, by omega⟩)))
            obtain ⟨b', t', r', v', g1, g2, g3⟩ := sm_part rs hBx hMx.2.2.2.2.1 k6 k7
            obtain ⟨g2, D4, q1, q2, q3⟩ := g2
            rcases g3 with ⟨rfl, g4, g5⟩ | ⟨rfl, g4⟩
            · have pD : 0 < D4 := by
                rcases q2 with q2 | q2
                · exact absurd q2 (by decide)
                · exact q2
              have lim : 1 ≤ (v'.2.2.1 0 2).toInt := by
                rcases q1.2.2.2.2.1.2.2.2.1 with g | g
                · omega
                · exact g
              exact ih n7 b' t' v' (z + 1) D4 g4 g5 q1 lim (by omega) (by omega) g1 (g2.1 (by decide))
            · exact ⟨b', t', 0, v', fa_L15 g4 g1, g2.2 rfl, Or.inr ⟨rfl, g4⟩⟩
          · have k7 := a2.1 sc
            unfold E7 at k7
            have k7 := (e7_next a5 k7).2 m1
            obtain ⟨x, y, b1, b2, b3, b4⟩ := sm_fault a3.2.2.2.2 a3.2.1 (by omega) (by omega) (by decide) (by decide) (k6.1 sc) k7
            obtain ⟨x2, b5, b6⟩ := fa_part b4 b1
            exact ⟨b, x2, 0, y, fa_L15 b6 b5, b2.2, Or.inr ⟨rfl, b6⟩⟩

/-! The head of a board's text; telling a board. -/
def Z6 (b : Bd) : Prop := (b.1 0 = 0 ∧ b.1 1 = 0 ∧ b.1 2 = 0 ∧ b.1 3 = 0) ∧ ∀ c : Nat, c < 40 → (∀ j : Nat, j < 7 → b.2.1 (3 + j) c = 0) ∧ b.2.2.1 c = 0
theorem e0_clear_L {P : Bd → Prop} : ∀ (n : Nat) (s : Bd) (z : Int32), 0 ≤ z.toInt → z.toInt ≤ 40 → (s.1 0 = 0 ∧ s.1 1 = 0 ∧ s.1 2 = 0 ∧ s.1 3 = 0) → (∀ c : Nat, (c : Int) < z.toInt → (∀ j : Nat, j < 7 → s.2.1 (3 + j) c = 0) ∧ s.2.2.1 c = 0) → wp_X0_clear_L32 P (fun t0 z1 => P t0) n s z → ∃ u, P u ∧ Z6 u := by
  have e1 : (1 : Int32).toInt = 1 := rfl
  have e40 : (40 : Int32).toInt = 40 := rfl
  intro n
  induction n with
  | zero =>
    intro s z _ _ _ _ h
    exact (show False from h).elim
  | succ n ih =>
    intro s z h0 h1 hi hc h
    unfold wp_X0_clear_L32 at h
    by_cases c : 40 ≤ z
    · have := q_le c
      exact ⟨s, h.1 c, hi, fun k hk => hc k (by omega)⟩
    · have c1 := q_nle c
      have a := nw (tq_addr e1 z) (by omega)
      have h := h.2 c
      unfold wp_X0_makeCell at h
      have h := h.2.2.2.2.2.2.2.2
      refine ih _ (z + 1) (by omega) (by omega) ?_ ?_ h
      · exact hi
      intro k hk
      have tz : Int32.toNatClampNeg z = z.toInt.toNat := rfl
      by_cases g : k = z.toInt.toNat
      · subst g
        refine ⟨fun j hj => ?_, uL_e⟩
        rcases (show j = 0 ∨ j = 1 ∨ j = 2 ∨ j = 3 ∨ j = 4 ∨ j = 5 ∨ j = 6 by omega) with rfl | rfl | rfl | rfl | rfl | rfl | rfl
        · exact up_e
        · exact up_e
        · exact up_e
        · exact up_e
        · exact up_e
        · exact up_e
        · exact up_e
      · obtain ⟨q1, q2⟩ := hc k (by omega)
        refine ⟨fun j hj => ?_, (uL_n g).trans q2⟩
        have q1 := q1 j hj
        rcases (show j = 0 ∨ j = 1 ∨ j = 2 ∨ j = 3 ∨ j = 4 ∨ j = 5 ∨ j = 6 by omega) with rfl | rfl | rfl | rfl | rfl | rfl | rfl
        · exact (up_n g).trans q1
        · exact (up_n g).trans q1
        · exact (up_n g).trans q1
        · exact (up_n g).trans q1
        · exact (up_n g).trans q1
        · exact (up_n g).trans q1
        · exact (up_n g).trans q1
theorem e0_clear {P : Bd → Prop} {s : Bd} (h : wp_X0_clear P s) : ∃ u, P u ∧ Z6 u := by
  unfold wp_X0_clear at h
  obtain ⟨n, h⟩ := h
  have e0 : (0 : Int32).toInt = 0 := rfl
  exact e0_clear_L n _ 0 (by decide) (by decide) ⟨rfl, rfl, rfl, rfl⟩ (fun c hc => by omega) h
/-- all of a text that is a board's, from the head on -/
theorem sm_headB {P6 : Bd → Tp → Prop} {P7 : Int32 → Md → Prop} {b : Bd} {u : Tp} {v x : Md} {N : Int} {r1 r2 : Int32} (hZ : Z6 b) (hM : mb N 0 0 0 x) (hx0 : ∀ i : Nat, i < 6896 → x.2.2.1 0 i = 0) (fx : v.2.2.2 = x.2.2.2 ∧ v.1 5 = x.1 5 ∧ v.1 0 = x.1 0 ∧ (∀ k, ¬ k = 0 → v.2.2.1 k = x.2.2.1 k)) (frow : v.2.2.1 0 = vp_updL (vp_updL (x.2.2.1 0) 0 (Int32.toInt64 r1)) 1 (Int32.toInt64 r2)) (hr1 : 1 ≤ r1.toInt ∧ r1.toInt ≤ 6) (hr2 : 1 ≤ r2.toInt ∧ r2.toInt ≤ 10) (hrr : r1.toInt * r2.toInt ≤ 40) (hR : RT u v) (h6 : wp_X5_takeThisWord (fun u_19 => wp_X5_takeNumber (fun r_20 u_21 => wp_X5_isSound (fun r_22 => ((r_22 = 0 → (∃ n15, wp_X1_readInto_L15 P6 (fun t0 t1 z2 => E6 P6 t0 t1) n15 b u_21 0)) ∧ (¬ r_22 = 0 → (∃ n15, wp_X1_readInto_L15 P6 (fun t0 t1 z2 => E6 P6 t0 t1) n15 ((va_up (va_up (va_up b.1 0 r1) 1 r2) 2 r_20), b.2.1, b.2.2.1, b.2.2.2.1, b.2.2.2.2) u_21 0)))) u_21) u_19 (1 : Int32) (99 : Int32)) u (2 : Int32)) (h7 : wp_X7_mustWord (fun r_14 u_15 => ((r_14 = 0 → P7 0 u_15) ∧ (¬ r_14 = 0 → wp_X7_readsNumber (fun r_17 u_18 => ((¬ r_17 = 0 → (∃ n116, wp_X7_readsBoard_L116 P7 (fun t0 => P7 0 t0) (fun t0 => E7 P7 t0) n116 (u_18.1, u_18.2.1, (va_up u_18.2.2.1 0 (vp_updL (u_18.2.2.1 0) (Int32.toNatClampNeg 2) (Int32.toInt64 (u_18.1 8)))), u_18.2.2.2))) ∧ (r_17 = 0 → P7 0 u_18))) u_15 (1 : Int32) (99 : Int32)))) v 1) : ∃ b' t' r v', P6 b' t' ∧ P7 r v' ∧ OUTB b' t' r v' := by
  have e1 : (1 : Int32).toInt = 1 := rfl
  have e99 : (99 : Int32).toInt = 99 := rfl
  obtain ⟨u1, r, v1, a1, a2, a3, a4⟩ := sm_thisWord (i := 1) (by decide) rfl hR h6 h7
  rcases a4 with ⟨rfl, a4⟩ | ⟨rfl, a4⟩
  · obtain ⟨r3, u2, r9, v2, b1, b2, b3, b4⟩ := sm_number a4 (by decide) (by decide) a1 (a2.2 (by decide))
    have fr := FR_tr a3 b3
    have fv : v2.2 = v.2 := fr.2.2.2
    rcases b4 with ⟨rfl, b4, b5, b6, b7, _⟩ | ⟨rfl, b4⟩
    · obtain ⟨n6, k6⟩ := ((e5_isSound b1).1 b4.2.2.2.2).2 (by decide)
      obtain ⟨n7, k7⟩ := b2.1 (by decide)
      rw [← b5] at k7
      rw [e1] at b6
      rw [e99] at b7
      have t2 : Int32.toNatClampNeg 2 = 2 := rfl
      rw [t2] at k7
      obtain ⟨y, hy⟩ : ∃ y : Md, y = (v2.1, v2.2.1, (va_up v2.2.2.1 0 (vp_updL (v2.2.2.1 0) 2 (Int32.toInt64 r3))), v2.2.2.2) := ⟨_, rfl⟩
      rw [← hy] at k7
      have fn : FN v2 y := by rw [hy]; exact FN_up v2 _
      have row : y.2.2.1 0 = vp_updL (vp_updL (vp_updL (x.2.2.1 0) 0 (Int32.toInt64 r1)) 1 (Int32.toInt64 r2)) 2 (Int32.toInt64 r3) := by
        rw [hy]
        show vp_updL (v2.2.2.1 0) 2 (Int32.toInt64 r3) = _
        rw [fv, frow]
      have y0 : y.2.2.1 0 0 = Int32.toInt64 r1 := by rw [row, uL_n (by decide), uL_n (by decide), uL_e]
      have y1 : y.2.2.1 0 1 = Int32.toInt64 r2 := by rw [row, uL_n (by decide), uL_e]
      have y2 : y.2.2.1 0 2 = Int32.toInt64 r3 := by rw [row, uL_e]
      have yz : ∀ i : Nat, 3 ≤ i → i < 6896 → y.2.2.1 0 i = 0 := fun i g1 g2 => by
        rw [row, uL_n (by omega), uL_n (by omega), uL_n (by omega)]
        exact hx0 i g2
      have z0 : (0 : Int64).toInt = 0 := rfl
      have cz : ∀ c j : Nat, c < 40 → j < 8 → c_f (y.2.2.1 0) c j = 0 := fun c j g1 g2 => by
        unfold c_f
        rw [yz _ (by omega) (by omega)]
        rfl
      have rr0 : 0 ≤ r1.toInt * r2.toInt := Int.mul_nonneg (by omega) (by omega)
      have rw0 : rw_ok r1.toInt r2.toInt 0 (y.2.2.1 0) := by
        refine ⟨by rw [y0, tq_64], by rw [y1, tq_64], by rw [yz 3 (by decide) (by decide)]; rfl, Or.inl (by omega), by rw [y2, tq_64]; omega, by omega, fun d hd => by omega, fun c hc => ?_⟩
        unfold rw_c
        rw [cz c 0 hc (by decide), cz c 1 hc (by decide), cz c 2 hc (by decide), cz c 3 hc (by decide), cz c 4 hc (by decide)]
        refine ⟨by omega, fun _ => by omega, fun g => by omega⟩
      have m2 : v2.1 5 = v.1 5 := fr.2.2.1 5 (by decide)
      have m0 : v2.1 0 = v.1 0 := fr.2.2.1 0 (by decide)
      have mby : mb N r1.toInt r2.toInt 0 y := by
        refine mb_row hM ?_ ?_ (fun k hk => ?_) ?_ rw0
        · rw [fn.1, m2, fx.2.1]
        · rw [fn.1, m0, fx.2.2.1]
        · rw [fn.2.2.1 k hk, fv, fx.2.2.2 k hk]
        · rw [fn.2.2.2, fv, fx.1]
      have rb : RB ((va_up (va_up (va_up b.1 0 r1) 1 r2) 2 r3), b.2.1, b.2.2.1, b.2.2.2.1, b.2.2.2.2) (y.2.2.1 0) := by
        obtain ⟨⟨q0, q1, q2, q3⟩, q4⟩ := hZ
        refine ⟨⟨?_, ?_, ?_, ?_⟩, ⟨⟨by rw [yz 3 (by decide) (by decide)]; decide, Or.inr (by rw [y1, tq_64]; omega)⟩, fun d hd => ?_⟩, fun c hc => ?_⟩
        · rw [y0, t32_64]
          rfl
        · rw [y1, t32_64]
          rfl
        · rw [y2, t32_64]
          rfl
        · rw [yz 3 (by decide) (by decide)]
          exact q3
        · rw [yz 3 (by decide) (by decide), z0] at hd
          omega
        · rw [y0, y1, tq_64, tq_64] at hc
          obtain ⟨p1, p2⟩ := q4 c (by omega)
          refine ⟨fun j hj => ?_, ?_⟩
          · rw [yz _ (by omega) (by omega)]
            exact p1 j hj
          · rw [yz _ (by omega) (by omega)]
            exact ⟨p2, bs_0 0⟩
      have bR := (RT_fn b4 fn).2.2
      exact sm_board_L (by omega) n6 n7 _ u2 y 0 0 (RT_fn b4 fn) rb mby (by rw [y2, tq_64]; omega) (by decide) (by show (0 : Int) ≤ _; omega) k6 k7
    · obtain ⟨n6, k6⟩ := (fa_sound b4 b1).1 rfl
      exact ⟨b, u2, 0, v2, fa_L15 b4 k6, b2.2 rfl, Or.inr ⟨rfl, b4⟩⟩
  · obtain ⟨r3, u2, b1, b4⟩ := fa_num a4 a1
    obtain ⟨n6, k6⟩ := (fa_sound b4 b1).1 rfl
    exact ⟨b, u2, 0, v1, fa_L15 b4 k6, a2.1 rfl, Or.inr ⟨rfl, b4⟩⟩
theorem fa_headB {P6 : Bd → Tp → Prop} {b b2 : Bd → Int32 → Bd} {b0 : Bd} {u : Tp} {v : Md} (hf : FL u v) (h6 : wp_X5_takeThisWord (fun u_19 => wp_X5_takeNumber (fun r_20 u_21 => wp_X5_isSound (fun r_22 => ((r_22 = 0 → (∃ n15, wp_X1_readInto_L15 P6 (fun t0 t1 z2 => E6 P6 t0 t1) n15 b0 u_21 0)) ∧ (¬ r_22 = 0 → (∃ n15, wp_X1_readInto_L15 P6 (fun t0 t1 z2 => E6 P6 t0 t1) n15 (b b0 r_20) u_21 0)))) u_21) u_19 (1 : Int32) (99 : Int32)) u (2 : Int32)) : ∃ t', P6 b0 t' ∧ FL t' v := by
  obtain ⟨u1, a1, a2⟩ := fa_word hf h6
  obtain ⟨r3, u2, b1, b4⟩ := fa_num a2 a1
  obtain ⟨n6, k6⟩ := (fa_sound b4 b1).1 rfl
  exact ⟨u2, fa_L15 b4 k6, b4⟩
theorem d40x : ∀ k : Nat, k < 7 → 1 ≤ k → ((40 : Int32) / nI k).toInt = ((40 / k : Nat) : Int) := by decide +kernel
theorem d40 (k : Nat) (h1 : 1 ≤ k) (h2 : k ≤ 6) : ((40 : Int32) / nI k).toInt = ((40 / k : Nat) : Int) := d40x k (by omega) h1
theorem sm_board {P6 : Bd → Tp → Prop} {P7 : Int32 → Md → Prop} {b : Bd} {t : Tp} {s : Md} {N : Int} (hZ : Z6 b) (hM : mb N 0 0 0 s) (hs0 : ∀ i : Nat, i < 6896 → s.2.2.1 0 i = 0) (hR : RT t ((va_up s.1 6 0), s.2.1, s.2.2.1, s.2.2.2)) (h6 : wp_X1_readHead (fun u_6a u_6b => (∃ n15, wp_X1_readInto_L15 P6 (fun t0 t1 z2 => E6 P6 t0 t1) n15 u_6a u_6b 0)) b t) (h7 : wp_X7_readsBoard P7 s) : ∃ b' t' r v', P6 b' t' ∧ P7 r v' ∧ OUTB b' t' r v' := by
  have e1 : (1 : Int32).toInt = 1 := rfl
  have e6 : (6 : Int32).toInt = 6 := rfl
  have e0 : (0 : Int32).toInt = 0 := rfl
  have e10 : (10 : Int32).toInt = 10 := rfl
  unfold wp_X1_readHead at h6
  unfold wp_X7_readsBoard at h7
  obtain ⟨u1, r, v1, a1, a2, a3, a4⟩ := sm_thisWord (i := 0) (by decide) rfl hR h6 h7
  have fault : ∀ {t1 : Tp} {v1 : Md} {r : Int32}, FL t1 v1 → ((r ≤ 0 → wp_X5_takeNumber (fun r_6 u_7 => wp_X5_takeThisWord (fun u_9 => wp_X5_takeNumber (fun r_10 u_11 => wp_X5_isSound (fun r_12 => ((r_12 = 0 → (∃ n15, wp_X1_readInto_L15 P6 (fun t0 t1 z2 => E6 P6 t0 t1) n15 b u_11 0)) ∧ (¬ r_12 = 0 → (∃ n15, wp_X1_readInto_L15 P6 (fun t0 t1 z2 => E6 P6 t0 t1) n15 ((va_up (va_up (va_up b.1 0 r) 1 r_6) 2 r_10), b.2.1, b.2.2.1, b.2.2.2.1, b.2.2.2.2) u_11 0)))) u_11) u_9 (1 : Int32) (99 : Int32)) u_7 (2 : Int32)) t1 (1 : Int32) (0 : Int32)) ∧ (¬ r ≤ 0 → ¬ r = 0 ∧ wp_X5_takeNumber (fun r_16 u_17 => wp_X5_takeThisWord (fun u_19 => wp_X5_takeNumber (fun r_20 u_21 => wp_X5_isSound (fun r_22 => ((r_22 = 0 → (∃ n15, wp_X1_readInto_L15 P6 (fun t0 t1 z2 => E6 P6 t0 t1) n15 b u_21 0)) ∧ (¬ r_22 = 0 → (∃ n15, wp_X1_readInto_L15 P6 (fun t0 t1 z2 => E6 P6 t0 t1) n15 ((va_up (va_up (va_up b.1 0 r) 1 r_16) 2 r_20), b.2.1, b.2.2.1, b.2.2.2.1, b.2.2.2.2) u_21 0)))) u_21) u_19 (1 : Int32) (99 : Int32)) u_17 (2 : Int32)) t1 (1 : Int32) (if (40 / r) < (10 : Int32) then (40 / r) else (10 : Int32)))) → ∃ t', P6 b t' ∧ FL t' v1 := by
    intro t1 v1 r hf h
    by_cases c : r ≤ 0
    · obtain ⟨r2, u2, b1, b4⟩ := fa_num hf (h.1 c)
      exact fa_headB (b := fun b r3 => ((va_up (va_up (va_up b.1 0 r) 1 r2) 2 r3), b.2.1, b.2.2.1, b.2.2.2.1, b.2.2.2.2)) (b2 := fun b _ => b) b4 b1
    · obtain ⟨r2, u2, b1, b4⟩ := fa_num hf (h.2 c).2
      exact fa_headB (b := fun b r3 => ((va_up (va_up (va_up b.1 0 r) 1 r2) 2 r3), b.2.1, b.2.2.1, b.2.2.2.1, b.2.2.2.2)) (b2 := fun b _ => b) b4 b1
  rcases a4 with ⟨rfl, a4⟩ | ⟨rfl, a4⟩
  · obtain ⟨r1, u2, r9, v2, b1, b2, b3, b4⟩ := sm_number a4 (by decide) (by decide) a1 (a2.2 (by decide))
    have fr := FR_tr a3 b3
    have fv : v2.2 = s.2 := fr.2.2.2
    have f5 : v2.1 5 = s.1 5 := fr.2.2.1 5 (by decide)
    have f0 : v2.1 0 = s.1 0 := fr.2.2.1 0 (by decide)
    rcases b4 with ⟨rfl, b4, b5, b6, b7, _⟩ | ⟨rfl, b4⟩
    · rw [e1] at b6
      rw [e6] at b7
      have k6 := (b1.2 (fun g => by have := q_le g; omega)).2
      have k7 := b2.1 (by decide)
      rw [← b5] at k7
      have t0 : Int32.toNatClampNeg 0 = 0 := rfl
      have t1 : Int32.toNatClampNeg 1 = 1 := rfl
      rw [t0, t1] at k7
      obtain ⟨x, hx⟩ : ∃ x : Md, x = (v2.1, v2.2.1, (va_up v2.2.2.1 0 (vp_updL (v2.2.2.1 0) 0 (Int32.toInt64 r1))), v2.2.2.2) := ⟨_, rfl⟩
      rw [← hx] at k7
      have fn : FN v2 x := by rw [hx]; exact FN_up v2 _
      have x0 : x.2.2.1 0 = vp_updL (s.2.2.1 0) 0 (Int32.toInt64 r1) := by
        rw [hx]
        show vp_updL (v2.2.2.1 0) 0 (Int32.toInt64 r1) = _
        rw [fv]
      have rr : Int64.toInt32 (x.2.2.1 0 0) = r1 := by rw [x0, uL_e, t32_64]
      have k7 := rows_e k7
      rw [rr] at k7
      have k7 := k7.2
      have bR := RT_fn b4 fn
      have dv := d40 r1.toInt.toNat (by omega) (by omega)
      rw [nI_tn (by omega)] at dv
      have pr : ∀ r2 : Int32, 1 ≤ r2.toInt → r2.toInt ≤ (40 / r1).toInt → r1.toInt * r2.toInt ≤ 40 := fun r2 g1 g2 => by
        rcases (show r1.toInt = 1 ∨ r1.toInt = 2 ∨ r1.toInt = 3 ∨ r1.toInt = 4 ∨ r1.toInt = 5 ∨ r1.toInt = 6 by omega) with q | q | q | q | q | q <;> (rw [q] at dv ⊢; rw [dv] at g2; have g2 : r2.toInt ≤ _ := g2; simp at g2; omega)
      have go : ∀ {hi : Int32} {r2 : Int32} {u3 : Tp} {v3 : Md}, FR u2 u3 x v3 → RT u3 v3 → r2 = v3.1 8 → 1 ≤ r2.toInt → r2.toInt ≤ 10 → r2.toInt ≤ (40 / r1).toInt → wp_X5_takeThisWord (fun u_19 => wp_X5_takeNumber (fun r_20 u_21 => wp_X5_isSound (fun r_22 => ((r_22 = 0 → (∃ n15, wp_X1_readInto_L15 P6 (fun t0 t1 z2 => E6 P6 t0 t1) n15 b u_21 0)) ∧ (¬ r_22 = 0 → (∃ n15, wp_X1_readInto_L15 P6 (fun t0 t1 z2 => E6 P6 t0 t1) n15 ((va_up (va_up (va_up b.1 0 r1) 1 r2) 2 r_20), b.2.1, b.2.2.1, b.2.2.2.1, b.2.2.2.2) u_21 0)))) u_21) u_19 (1 : Int32) (99 : Int32)) u3 (2 : Int32) → wp_X7_mustWord (fun r_14 u_15 => ((r_14 = 0 → P7 0 u_15) ∧ (¬ r_14 = 0 → wp_X7_readsNumber (fun r_17 u_18 => ((¬ r_17 = 0 → (∃ n116, wp_X7_readsBoard_L116 P7 (fun t0 => P7 0 t0) (fun t0 => E7 P7 t0) n116 (u_18.1, u_18.2.1, (va_up u_18.2.2.1 0 (vp_updL (u_18.2.2.1 0) (Int32.toNatClampNeg 2) (Int32.toInt64 (u_18.1 8)))), u_18.2.2.2))) ∧ (r_17 = 0 → P7 0 u_18))) u_15 (1 : Int32) (99 : Int32)))) (v3.1, v3.2.1, (va_up v3.2.2.1 0 (vp_updL (v3.2.2.1 0) 1 (Int32.toInt64 r2))), v3.2.2.2) 1 → ∃ b' t' r v', P6 b' t' ∧ P7 r v' ∧ OUTB b' t' r v' := by
        intro hi r2 u3 v3 g1 g2 g3 g4 g5 g6 k6 k7
        have h3 : v3.2 = x.2 := g1.2.2.2
        refine sm_headB hZ hM hs0 ⟨?_, ?_, ?_, fun k hk => ?_⟩ ?_ ⟨b6, b7⟩ ⟨g4, g5⟩ (pr r2 g4 g6) (RT_fn g2 (FN_up v3 _)) k6 k7
        · show v3.2.2.2 = s.2.2.2
          rw [h3, fn.2.2.2, fv]
        · show v3.1 5 = s.1 5
          rw [g1.2.2.1 5 (by decide), fn.1, f5]
        · show v3.1 0 = s.1 0
          rw [g1.2.2.1 0 (by decide), fn.1, f0]
        · show va_up v3.2.2.1 0 _ k = _
          rw [va_n hk, h3, fn.2.2.1 k hk, fv]
        · show vp_updL (v3.2.2.1 0) 1 (Int32.toInt64 r2) = _
          rw [h3, x0]
      by_cases c : 10 ≤ 40 / r1
      · have c1 := q_le c
        have nc : ¬ 40 / r1 < (10 : Int32) := fun g => by have := q_lt g; omega
        rw [if_neg nc] at k6
        obtain ⟨r2, u3, r8, v3, c2, c3, c4, c5⟩ := sm_number bR (by decide) (by decide) k6 (k7.1 c)
        rcases c5 with ⟨rfl, c5, c6, c7, c8, _⟩ | ⟨rfl, c5⟩
        · have k := c3.1 (by decide)
          rw [← c6] at k
          rw [e1] at c7
          rw [e10] at c8
          exact go (hi := 10) c4 c5 c6 c7 c8 (by omega) c2 k
        · obtain ⟨t', g1, g2⟩ := fa_headB (b := fun b r3 => ((va_up (va_up (va_up b.1 0 r1) 1 r2) 2 r3), b.2.1, b.2.2.1, b.2.2.2.1, b.2.2.2.2)) (b2 := fun b _ => b) c5 c2
          exact ⟨b, t', 0, v3, g1, c3.2 rfl, Or.inr ⟨rfl, g2⟩⟩
      · have c1 := q_nle c
        rw [if_pos (Int32.lt_iff_toInt_lt.mpr c1)] at k6
        have k7 := rows_e (k7.2 c)
        rw [rr] at k7
        obtain ⟨r2, u3, r8, v3, c2, c3, c4, c5⟩ := sm_number bR (by decide) (by omega) k6 k7.2
        rcases c5 with ⟨rfl, c5, c6, c7, c8, _⟩ | ⟨rfl, c5⟩
        · have k := c3.1 (by decide)
          rw [← c6] at k
          rw [e1] at c7
          refine go (hi := 10) c4 c5 c6 c7 (by omega) c8 c2 ?_
          refine dm2 (F := fun k => wp_X7_mustWord k (v3.1, v3.2.1, (va_up v3.2.2.1 0 (vp_updL (v3.2.2.1 0) 1 (Int32.toInt64 r2))), v3.2.2.2) 1) (dt_X7_mustWord _ _) k (fun _ x2 h => ⟨h.1, fun d => ?_⟩)
          refine dm2 (F := fun k => wp_X7_readsNumber k x2 1 99) (dt_X7_readsNumber _ _ _) (h.2 d) (fun _ _ h => ⟨fun d => ?_, h.2⟩)
          obtain ⟨n, h⟩ := h.1 d
          exact ⟨n, rb_same n _ h⟩
        · obtain ⟨t', g1, g2⟩ := fa_headB (b := fun b r3 => ((va_up (va_up (va_up b.1 0 r1) 1 r2) 2 r3), b.2.1, b.2.2.1, b.2.2.2.1, b.2.2.2.2)) (b2 := fun b _ => b) c5 c2
          exact ⟨b, t', 0, v3, g1, c3.2 rfl, Or.inr ⟨rfl, g2⟩⟩
    · obtain ⟨t', g1, g2⟩ := fault b4 b1
      exact ⟨b, t', 0, v2, g1, b2.2 rfl, Or.inr ⟨rfl, g2⟩⟩
  · obtain ⟨r1, u2, b1, b4⟩ := fa_num a4 a1
    obtain ⟨t', g1, g2⟩ := fault b4 b1
    exact ⟨b, t', 0, v1, g1, a2.1 rfl, Or.inr ⟨rfl, g2⟩⟩

/-! tell, feed, end: what both answer, and what both have on the tape behind them. -/
theorem e7_zero_L {p7 : Int32 → Md → Prop} {e7 : Md → Int32 → Prop} : ∀ (n : Nat) (s : Md) (z : Int32), 0 ≤ z.toInt → z.toInt ≤ 6896 → wp_X7_tell_L6 p7 e7 n s z → ∃ u z', e7 u z' ∧ FN s u ∧ (∀ i : Nat, i < z.toInt.toNat → u.2.2.1 0 i = s.2.2.1 0 i) ∧ (∀ i : Nat, z.toInt ≤ (i : Int) → i < 6896 → u.2.2.1 0 i = 0) := by
  have e1 : (1 : Int32).toInt = 1 := rfl
  have eK : (6896 : Int32).toInt = 6896 := rfl
  intro n
  induction n with
  | zero =>
    intro s z _ _ h
    exact (show False from h).elim
  | succ n ih =>
    intro s z h0 h1 h
    unfold wp_X7_tell_L6 at h
    by_cases c : 6896 ≤ z
    · have := q_le c
      exact ⟨s, z, h.1 c, FN_rf s, fun _ _ => rfl, fun i g1 g2 => by omega⟩
    · have c1 := q_nle c
      have a := nw (tq_addr e1 z) (by omega)
      have h := (h.2 c).2
      have tz : Int32.toNatClampNeg z = z.toInt.toNat := rfl
      rw [tz] at h
      obtain ⟨u, z', b1, b2, b3, b4⟩ := ih (s.1, s.2.1, (va_up s.2.2.1 0 (vp_updL (s.2.2.1 0) z.toInt.toNat 0)), s.2.2.2) (z + 1) (by omega) (by omega) h
      refine ⟨u, z', b1, FN_tr (FN_up s _) b2, fun i hi => ?_, fun i g1 g2 => ?_⟩
      · rw [b3 i (by omega)]
        show vp_updL (s.2.2.1 0) z.toInt.toNat 0 i = _
        exact uL_n (by omega)
      · by_cases g : (i : Int) = z.toInt
        · have ei : i = z.toInt.toNat := by omega
          rw [b3 i (by omega), ei]
          show vp_updL (s.2.2.1 0) z.toInt.toNat 0 z.toInt.toNat = _
          exact uL_e
        · exact b4 i (by omega) g2
theorem e0_emptyLog {P : Bd → Prop} {s : Bd} (h : wp_X0_emptyLog P s) : ∃ u, P u ∧ u.1 = s.1 ∧ u.2.1 = s.2.1 ∧ u.2.2.1 = s.2.2.1 := by
  unfold wp_X0_emptyLog at h
  obtain ⟨r, h, _⟩ := xf_dt (dt_X0_entryCount s) _ h
  by_cases c : r ≤ Int32.ofNat s.2.2.2.1
  · exact ⟨_, (h.1 c).2, rfl, rfl, rfl⟩
  · exact ⟨_, (h.2 c).2.2, rfl, rfl, rfl⟩
/-! feed -/
theorem by_n (y : Int32) : (vp_nar .byte (Int8.toInt32 (Int32.toInt8 y))) &&& 255 = y &&& 255 ∧ -128 ≤ (vp_nar .byte (Int8.toInt32 (Int32.toInt8 y))).toInt ∧ (vp_nar .byte (Int8.toInt32 (Int32.toInt8 y))).toInt ≤ 127 := by
  have e : vp_nar .byte (Int8.toInt32 (Int32.toInt8 y)) = Int8.toInt32 (Int32.toInt8 (Int8.toInt32 (Int32.toInt8 y))) := rfl
  rw [e, Int8.toInt8_toInt32]
  refine ⟨?_, ?_, ?_⟩
  · apply Int32.toBitVec_inj.mp
    rw [Int32.toBitVec_and, Int32.toBitVec_and]
    show (y.toBitVec.signExtend 8).signExtend 32 &&& 255#32 = y.toBitVec &&& 255#32
    apply BitVec.eq_of_getLsbD_eq
    intro i hi
    rw [BitVec.getLsbD_and, BitVec.getLsbD_and]
    by_cases c : i < 8
    · rw [BitVec.getLsbD_signExtend, BitVec.getLsbD_signExtend]
      simp [hi, c]
    · have : (255#32).getLsbD i = false := (show ∀ i, i < 32 → ¬ i < 8 → (255#32).getLsbD i = false by decide) i hi c
      rw [this, Bool.and_false, Bool.and_false]
  · rw [Int8.toInt_toInt32]
    have := Int8.le_toInt (Int32.toInt8 y)
    omega
  · rw [Int8.toInt_toInt32]
    have := Int8.toInt_lt (Int32.toInt8 y)
    omega
theorem sm_lays_L {p6 : Tp → Prop} {p7 : Md → Prop} {e6 : Tp → Int32 → Int32 → Prop} {e7 : Md → Int32 → Int32 → Prop} {x : Int32} : ∀ (n6 n7 : Nat) (t : Tp) (s : Md) (z : Int32), RX t s → -8 ≤ z.toInt → z.toInt ≤ 24 → 8 * (s.1 5).toInt + z.toInt ≤ 3192 → wp_X5_addNumber_L3 p6 e6 n6 t x z → wp_X7_lays_L3 p7 e7 n7 s x z → ∃ u v z6 z7, e6 u x z6 ∧ e7 v x z7 ∧ RX u v ∧ 8 * (v.1 5).toInt ≤ 8 * (s.1 5).toInt + z.toInt + 8 := by
  have e1 : (1 : Int32).toInt = 1 := rfl
  have e0 : (0 : Int32).toInt = 0 := rfl
  have m8 : (-8 : Int32).toInt = -8 := rfl
  have e400 : (400 : Int32).toInt = 400 := rfl
  intro n6
  induction n6 with
  | zero =>
    intro n7 t s z _ _ _ _ h
    exact (show False from h).elim
  | succ n6 ih =>
    intro n7 t s z hx h0 h1 h2 h6 h7
    cases n7 with
    | zero => exact (show False from h7).elim
    | succ n7 =>
      unfold wp_X5_addNumber_L3 at h6
      unfold wp_X7_lays_L3 at h7
      obtain ⟨q1, q2, q3, q4, q5⟩ := hx
      by_cases c : z < 0
      · have := q_lt c
        exact ⟨t, s, z, z, h6.1 c, h7.1 c, ⟨q1, q2, q3, q4, q5⟩, by omega⟩
      · have c1 := q_nlt c
        have a := nw (tq_addr m8 z) (by omega)
        have b := nw (tq_addr e1 (s.1 5)) (by omega)
        have k6 := ((h6.2 c).2 (fun g => by
          have := q_le g
          rw [q1] at this
          omega)).2
        have k7 := (h7.2 c).2
        have nb := by_n (x >>> (z &&& 31))
        have rx : RX ((va_up t.1 0 ((t.1 0) + 1)), (upd t.2 (Int32.toNatClampNeg (t.1 0)) ((x >>> (z &&& 31)) &&& 255))) ((va_up s.1 5 ((s.1 5) + 1)), s.2.1, s.2.2.1, (va_up s.2.2.2 2 (upd (s.2.2.2 2) (Int32.toNatClampNeg (s.1 5)) (vp_nar .byte (Int8.toInt32 (Int32.toInt8 (x >>> (z &&& 31)))))))) := by
          refine ⟨?_, funext (fun k => ?_), ?_, ?_, fun k => ?_⟩
          · show t.1 0 + 1 = s.1 5 + 1
            rw [q1]
          · show upd t.2 (Int32.toNatClampNeg (t.1 0)) _ k = (upd (s.2.2.2 2) (Int32.toNatClampNeg (s.1 5)) _ k) &&& 255
            rw [q1]
            unfold upd
            by_cases g : k = Int32.toNatClampNeg (s.1 5)
            · rw [if_pos g, if_pos g]
              exact nb.1.symm
            · rw [if_neg g, if_neg g, q2]
          · show 0 ≤ (s.1 5 + 1).toInt
            omega
          · show (s.1 5 + 1).toInt ≤ 400
            omega
          · show -128 ≤ (upd (s.2.2.2 2) (Int32.toNatClampNeg (s.1 5)) _ k).toInt ∧ (upd (s.2.2.2 2) (Int32.toNatClampNeg (s.1 5)) _ k).toInt ≤ 127
            unfold upd
            by_cases g : k = Int32.toNatClampNeg (s.1 5)
            · rw [if_pos g]
              exact nb.2
            · rw [if_neg g]
              exact q5 k
        obtain ⟨u, v, z6, z7, g1, g2, g3, g4⟩ := ih n7 _ _ (z + (-8)) rx (by omega) (by omega) (show 8 * (s.1 5 + 1).toInt + (z + (-8)).toInt ≤ 3192 by omega) k6 k7
        have g4 : 8 * (v.1 5).toInt ≤ 8 * (s.1 5 + 1).toInt + (z + (-8)).toInt + 8 := g4
        exact ⟨u, v, z6, z7, g1, g2, g3, by omega⟩
theorem sm_lays {P6 : Tp → Prop} {P7 : Md → Prop} {t : Tp} {s : Md} {x : Int32} (hx : RX t s) (h : (s.1 5).toInt ≤ 396) (h6 : wp_X5_addNumber P6 t x) (h7 : wp_X7_lays P7 s x) : ∃ u v, P6 u ∧ P7 v ∧ RX u v ∧ (v.1 5).toInt ≤ (s.1 5).toInt + 4 := by
  unfold wp_X5_addNumber at h6
  unfold wp_X7_lays at h7
  obtain ⟨n6, h6⟩ := h6
  obtain ⟨n7, h7⟩ := h7
  have e24 : (24 : Int32).toInt = 24 := rfl
  obtain ⟨u, v, z6, z7, g1, g2, g3, g4⟩ := sm_lays_L n6 n7 t s 24 hx (by decide) (by decide) (by rw [e24]; omega) h6 h7
  rw [e24] at g4
  exact ⟨u, v, g1, g2, g3, by omega⟩
theorem sm_feed {P6 : Int32 → Tp → Prop} {P7 : Int32 → Md → Prop} {t : Tp} {s : Md} {x1 x2 x3 x4 x5 : Int32} (hx : RX t s) (h6 : wp_X6_feed P6 t x1 x2 x3 x4 x5) (h7 : wp_X7_feed P7 s x1 x2 x3 x4 x5) : ∃ r u v, P6 r u ∧ P7 r v ∧ RX u v := by
  have e20 : (20 : Int32).toInt = 20 := rfl
  have e400 : (400 : Int32).toInt = 400 := rfl
  have e380 : (380 : Int32).toInt = 380 := rfl
  unfold wp_X6_feed at h6
  unfold wp_X7_feed at h7
  have q := hx.2.2
  have a := nw (tq_addr e20 (s.1 5)) (by omega)
  rw [hx.1] at h6
  by_cases c : s.1 5 ≤ 380
  · have c1 := q_le c
    have h6 := h6.1 (Int32.le_iff_toInt_le.mpr (by omega))
    have h7 := h7.1 c
    obtain ⟨t1, v1, h6, h7, y1, l1⟩ := sm_lays hx (by omega) h6 h7
    obtain ⟨t2, v2, h6, h7, y2, l2⟩ := sm_lays y1 (by omega) h6 h7
    obtain ⟨t3, v3, h6, h7, y3, l3⟩ := sm_lays y2 (by omega) h6 h7
    obtain ⟨t4, v4, h6, h7, y4, l4⟩ := sm_lays y3 (by omega) h6 h7
    obtain ⟨t5, v5, h6, h7, y5, l5⟩ := sm_lays y4 (by omega) h6 h7
    rw [y5.1] at h6
    exact ⟨_, t5, v5, h6, h7, y5⟩
  · have c1 := q_nle c
    exact ⟨-1, t, s, h6.2 (fun g => by have := q_le g; omega), h7.2 c, hx⟩

/-! The full relation: boards that are copied, the past, the shelves. -/
def AG (u s : Bd) : Prop := (u.1 0 = s.1 0 ∧ u.1 1 = s.1 1 ∧ u.1 2 = s.1 2 ∧ u.1 3 = s.1 3 ∧ u.1 4 = s.1 4 ∧ u.1 5 = s.1 5) ∧ (∀ d : Nat, d < 4 → u.2.1 0 d = s.2.1 0 d ∧ u.2.1 1 d = s.2.1 1 d) ∧ (∀ k : Nat, k < 160 → u.2.1 2 k = s.2.1 2 k) ∧ (∀ c : Nat, (c : Int) < (s.1 0 * s.1 1).toInt → (∀ j : Nat, j < 7 → u.2.1 (3 + j) c = s.2.1 (3 + j) c) ∧ u.2.2.1 c = s.2.2.1 c)
theorem RB_cells {s : Bd} {f : Nat → Int64} {R W D : Int} (hf : rw_ok R W D f) (hB : RB s f) : (s.1 0).toInt = R ∧ (s.1 1).toInt = W ∧ (s.1 0 * s.1 1).toInt = R * W ∧ (s.1 2).toInt = (f 2).toInt ∧ (s.1 3).toInt = D := by
  obtain ⟨f0, f1, f3, _, f2, f5, _⟩ := hf
  obtain ⟨⟨b0, b1, b2, b3⟩, _⟩ := hB
  have e0 : (s.1 0).toInt = R := by rw [b0, t32 (by omega), f0]
  have e1 : (s.1 1).toInt = W := by rw [b1, t32 (by omega), f1]
  have e2 : (s.1 2).toInt = (f 2).toInt := by rw [b2, t32 (by omega)]
  have e3 : (s.1 3).toInt = D := by rw [b3, t32 (by omega), f3]
  have em := nw (tq_mul (s.1 0) (s.1 1)) (by rw [e0, e1]; omega)
  rw [e0, e1] at em
  exact ⟨e0, e1, em, e2, e3⟩
theorem RB_ag {u s : Bd} {f : Nat → Int64} {R W D : Int} (hf : rw_ok R W D f) (h : AG u s) (hB : RB s f) : RB u f := by
  obtain ⟨_, _, em, _, _⟩ := RB_cells hf hB
  obtain ⟨⟨a0, a1, a2, a3, _, _⟩, ad, as_, ac⟩ := h
  obtain ⟨⟨b0, b1, b2, b3⟩, ⟨b4, b5⟩, b6⟩ := hB
  refine ⟨⟨a0.trans b0, a1.trans b1, a2.trans b2, a3.trans b3⟩, ⟨b4, fun d hd => ?_⟩, fun c hc => ?_⟩
  · obtain ⟨c1, c2, c3, c4⟩ := b5 d hd
    have c10 := c1.1
    refine ⟨c1, ((ad d (by omega)).1).trans c2, ((ad d (by omega)).2).trans c3, fun k hk => ?_⟩
    exact (as_ (40 * d + k) (by omega)).trans (c4 k hk)
  · have hc2 : (c : Int) < (s.1 0 * s.1 1).toInt := by rw [em, ← hf.1, ← hf.2.1]; exact hc
    exact ⟨fun j hj => ((ac c hc2).1 j hj).trans ((b6 c hc).1 j hj), ((ac c hc2).2).trans (b6 c hc).2.1, (b6 c hc).2.2⟩
theorem RB_cg {s : Bd} {f g : Nat → Int64} {R W D : Int} (hf : rw_ok R W D f) (h : ∀ i : Nat, i < 496 → g i = f i) (hB : RB s f) : RB s g := by
  have k40 : R * W ≤ 40 := hf.2.2.2.2.2.1.2.2.2.2.2.1
  obtain ⟨⟨b0, b1, b2, b3⟩, ⟨b4, b5⟩, b6⟩ := hB
  have g0 := h 0 (by omega)
  have g1 := h 1 (by omega)
  have g3 := h 3 (by omega)
  refine ⟨⟨?_, ?_, ?_, ?_⟩, ⟨?_, fun d hd => ?_⟩, fun c hc => ?_⟩
  · rw [g0]
    exact b0
  · rw [g1]
    exact b1
  · rw [h 2 (by omega)]
    exact b2
  · rw [g3]
    exact b3
  · rw [g3, g0, g1]
    exact b4
  · rw [g3] at hd
    obtain ⟨c1, c2, c3, c4⟩ := b5 d hd
    have c10 := c1.1
    have dd : d_f g d = d_f f d := by unfold d_f; rw [h _ (by omega)]
    have d0 := h (8 + 42 * d) (by omega)
    have d1 := h (8 + 42 * d + 1) (by omega)
    rw [dd, d0, d1]
    refine ⟨DG_k c1 (fun i h1 h2 => h i (by omega)), c2, c3, fun k hk => ?_⟩
    rw [h (8 + 42 * d + 2 + k) (by omega)]
    exact c4 k hk
  · rw [g0, g1] at hc
    obtain ⟨c1, c2⟩ := b6 c hc
    have hc3 : (c : Int) < R * W := by rw [← hf.1, ← hf.2.1]; exact hc
    refine ⟨fun j hj => ?_, ?_⟩
    · rw [h _ (by omega)]
      exact c1 j hj
    · rw [h _ (by omega)]
      exact c2
theorem RB_cgr {s : Bd} {f g : Nat → Int64} {R W D : Int} (hg : rw_ok R W D g) (h : ∀ i : Nat, i < 496 → g i = f i) (hB : RB s f) : RB s g := by
  have k40 : R * W ≤ 40 := hg.2.2.2.2.2.1.2.2.2.2.2.1
  have g0 := h 0 (by omega)
  have g1 := h 1 (by omega)
  have k41 : (f 0).toInt * (f 1).toInt = R * W := by rw [← g0, ← g1, hg.1, hg.2.1]
  obtain ⟨⟨b0, b1, b2, b3⟩, ⟨b4, b5⟩, b6⟩ := hB
  have g3 := h 3 (by omega)
  refine ⟨⟨?_, ?_, ?_, ?_⟩, ⟨?_, fun d hd => ?_⟩, fun c hc => ?_⟩
  · rw [g0]
    exact b0
  · rw [g1]
    exact b1
  · rw [h 2 (by omega)]
    exact b2
  · rw [g3]
    exact b3
  · rw [g3, g0, g1]
    exact b4
  · rw [g3] at hd
    obtain ⟨c1, c2, c3, c4⟩ := b5 d hd
    have c10 := c1.1
    have dd : d_f g d = d_f f d := by unfold d_f; rw [h _ (by omega)]
    have d0 := h (8 + 42 * d) (by omega)
    have d1 := h (8 + 42 * d + 1) (by omega)
    rw [dd, d0, d1]
    refine ⟨DG_k c1 (fun i h1 h2 => h i (by omega)), c2, c3, fun k hk => ?_⟩
    rw [h (8 + 42 * d + 2 + k) (by omega)]
    exact c4 k hk
  · rw [g0, g1] at hc
    obtain ⟨c1, c2⟩ := b6 c hc
    refine ⟨fun j hj => ?_, ?_⟩
    · rw [h _ (by omega)]
      exact c1 j hj
    · rw [h _ (by omega)]
      exact c2
theorem cpy_in {α : Type} {f g : Nat → α} {n : Nat} {k : Nat} (h : k < n) : va_cpy f g 0 0 n k = f k := by
  unfold va_cpy
  rw [if_pos ⟨Nat.zero_le _, by omega⟩]
  congr 1
  omega
theorem e0_copyBut {P : Bd → Prop} {s0 s1 : Bd} (h : wp_X0_copyAllButLog P s0 s1) : ∃ u, P u ∧ AG u s1 ∧ u.2.2.2 = s0.2.2.2 := by
  unfold wp_X0_copyAllButLog at h
  have h := cells6_e h
  have h := h.2.2.2.2.2.2.2.2.2.2.2.2.2.2.2.2.2.2.2.2.2.2.2.2
  refine ⟨_, h, ⟨⟨rfl, rfl, rfl, rfl, rfl, rfl⟩, fun d hd => ⟨?_, ?_⟩, fun k hk => ?_, fun c hc => ⟨fun j hj => ?_, ?_⟩⟩, rfl⟩
  · exact cpy_in (n := 4) hd
  · exact cpy_in (n := 4) hd
  · exact cpy_in (n := 160) hk
  · have hc2 : c < Int32.toNatClampNeg (s1.1 0 * s1.1 1) := by rw [tn_i]; omega
    match j, hj with
    | 0, _ => exact cpy_in hc2
    | 1, _ => exact cpy_in hc2
    | 2, _ => exact cpy_in hc2
    | 3, _ => exact cpy_in hc2
    | 4, _ => exact cpy_in hc2
    | 5, _ => exact cpy_in hc2
    | 6, _ => exact cpy_in hc2
  · have hc2 : c < Int32.toNatClampNeg (s1.1 0 * s1.1 1) := by rw [tn_i]; omega
    exact cpy_in hc2
theorem e0_copyAll {P : Bd → Prop} {s0 s1 : Bd} (h : wp_X0_copyAll P s0 s1) : ∃ u, P u ∧ AG u s1 := by
  unfold wp_X0_copyAll at h
  obtain ⟨v, h, a, _⟩ := e0_copyBut h
  obtain ⟨r, h, _⟩ := xf_dt (dt_X0_entryCount s1) _ h
  by_cases c : r ≤ Int32.ofNat v.2.2.2.1
  · exact ⟨_, (h.1 c).2.2.2, a⟩
  · exact ⟨_, (h.2 c).2.2.2.2.2, a⟩
/-! the past -/
def pw (m : Md) (j : Nat) : Nat → Int64 := fun i => m.2.2.1 1 (6896 * ((m.1 0).toInt.toNat - 1 - j) + i)
def KA (s u : Md) : Prop := (u.1 0).toInt = (if (s.1 0).toInt < 10 then (s.1 0).toInt + 1 else 10) ∧ ie [0] u.1 s.1 ∧ u.2.1 = s.2.1 ∧ u.2.2.2 = s.2.2.2 ∧ (∀ k, ¬ k = 1 → u.2.2.1 k = s.2.2.1 k) ∧ (∀ i : Nat, i < 6896 → pw u 0 i = s.2.2.1 0 i) ∧ (∀ j : Nat, (j : Int) + 1 < (u.1 0).toInt → ∀ i : Nat, i < 6896 → pw u (j + 1) i = pw s j i)
theorem ka_f {s0 : Md} (h0 : 0 ≤ (s0.1 0).toInt ∧ (s0.1 0).toInt ≤ 9) : ∃ n53, wp_X7_keepsAct_L53 (KA s0) (fun t0 z1 => KA s0 ((va_up t0.1 0 ((t0.1 0) + 1)), t0.2.1, t0.2.2.1, t0.2.2.2)) n53 s0 0 := by
  have e0 : (0 : Int32).toInt = 0 := rfl
  have e1 : (1 : Int32).toInt = 1 := rfl
  obtain ⟨nf, hf⟩ := fu_e 7000
  refine ⟨nf, wq_X7_keepsAct_L53 (s := s0) h0 (fun t z b1 b2 b3 b4 b5 b6 => ?_) nf s0 0 rfl rfl rfl (fun _ _ => rfl) (fun i hi => ?_) (fun _ _ => rfl) (by omega) (by omega)⟩
  · have t0 : t.1 0 = s0.1 0 := by rw [b1]
    have s1 := nw (tq_addr e1 (s0.1 0)) (by omega)
    have v0 : (((va_up t.1 0 ((t.1 0) + 1)), t.2.1, t.2.2.1, t.2.2.2) : Md).1 0 = s0.1 0 + 1 := by
      show t.1 0 + 1 = _
      rw [t0]
    refine ⟨?_, ie_up (by rw [b1]; exact ie_refl _ _) (by decide), b2, b3, b4, fun i hi => ?_, fun j hj i hi => ?_⟩
    · rw [v0, if_pos (by omega)]
      exact s1
    · unfold pw
      rw [v0]
      show t.2.2.1 1 _ = _
      have q := b5 i hi
      rw [Nat.zero_add] at q
      have eN : 6896 * ((s0.1 0 + 1).toInt.toNat - 1 - 0) + i = 6896 * (s0.1 0).toInt.toNat + i := by
        rw [s1]
        omega
      rw [eN]
      exact q
    · unfold pw
      rw [v0] at hj ⊢
      show t.2.2.1 1 _ = _
      have eN : 6896 * ((s0.1 0 + 1).toInt.toNat - 1 - (j + 1)) + i = 6896 * ((s0.1 0).toInt.toNat - 1 - j) + i := by
        rw [s1]
        omega
      rw [eN, b6 _ (by omega)]
  · omega
theorem wr_keepsAct {s0 : Md} (h0 : 0 ≤ (s0.1 0).toInt ∧ (s0.1 0).toInt ≤ 10) : wp_X7_keepsAct (KA s0) s0 := by
  unfold wp_X7_keepsAct
  have e10 : (10 : Int32).toInt = 10 := rfl
  have e1 : (1 : Int32).toInt = 1 := rfl
  have eR : (6896 : Int32).toInt = 6896 := rfl
  refine ⟨fun c => ka_f (by have := q_neq c; omega), fun c => ?_⟩
  have c2 := q_eq c
  obtain ⟨nf, hf⟩ := fu_e 70000
  refine ⟨nf, wq_X7_keepsAct_L13 (s := s0) (fun t z b1 b2 b3 b4 b5 => ?_) nf s0 6896 rfl rfl rfl (fun _ _ => rfl) (fun i hi => ?_) (fun _ _ => rfl) (by omega) (by omega)⟩
  · have t0 : t.1 0 = s0.1 0 := by rw [b1]
    have s1 := nw (tq_subr e1 (s0.1 0)) (by omega)
    have v0 : (((va_up t.1 0 ((t.1 0) - 1)), t.2.1, t.2.2.1, t.2.2.2) : Md).1 0 = s0.1 0 - 1 := by
      show t.1 0 - 1 = _
      rw [t0]
    obtain ⟨n, hn⟩ := ka_f (s0 := ((va_up t.1 0 ((t.1 0) - 1)), t.2.1, t.2.2.1, t.2.2.2)) (by rw [v0]; omega)
    have M : ∀ u : Md, KA ((va_up t.1 0 ((t.1 0) - 1)), t.2.1, t.2.2.1, t.2.2.2) u → KA s0 u := fun u hu => by
      obtain ⟨k1, k2, k3, k4, k5, k6, k7⟩ := hu
      rw [v0, if_pos (by omega)] at k1
      refine ⟨by rw [if_neg (by omega)]; omega, ie_tr k2 (by decide) (ie_up (by rw [b1]; exact ie_refl _ _) (by decide)), k3.trans b2, k4.trans b3, fun k hk => (k5 k hk).trans (b4 k hk), fun i hi => (k6 i hi).trans ?_, fun j hj i hi => (k7 j hj i hi).trans ?_⟩
      · show t.2.2.1 0 i = _
        rw [b4 0 (by decide)]
      · unfold pw
        rw [v0]
        show t.2.2.1 1 _ = _
        rw [b5 _ (by omega)]
        have eN : 6896 * ((s0.1 0 - 1).toInt.toNat - 1 - j) + i + 6896 = 6896 * ((s0.1 0).toInt.toNat - 1 - j) + i := by
          rw [s1]
          omega
        rw [eN]
    refine ⟨n, ?_⟩
    have R := dt_mono (F := fun P : Md → Prop => wp_X7_keepsAct_L53 P (fun t0 z1 => P ((va_up t0.1 0 ((t0.1 0) + 1)), t0.2.1, t0.2.2.1, t0.2.2.2)) n ((va_up t.1 0 ((t.1 0) - 1)), t.2.1, t.2.2.1, t.2.2.2) 0) ?_ hn M
    · exact R
    · exact dl_X7_keepsAct_L53 (fun _ => dt_r _) (fun _ _ => dt_r _) _ _ _ _
  · omega
def RP (s6 : Pa) (m : Md) : Prop := s6.1 0 = m.1 0 ∧ ∀ j : Nat, (j : Int) < (m.1 0).toInt → ∃ b, s6.2 (((s6.1 1).toInt.toNat + 9 - j) % 10) = some b ∧ RB b (pw m j)
theorem pw_ok {N R W D : Int} {m : Md} (hM : mb N R W D m) {j : Nat} (hj : (j : Int) < (m.1 0).toInt) : rk (pw m j) := by
  have q := hM.2.2.2.2.2.1 ((m.1 0).toInt.toNat - 1 - j) (by omega)
  exact q
theorem md10 {x : Int32} (h : 0 ≤ x.toInt ∧ x.toInt ≤ 9) : (((x + 1) - (x + 1) / 10 * 10).toInt = if x.toInt = 9 then 0 else x.toInt + 1) ∧ ((((x + 10) - 1) - ((x + 10) - 1) / 10 * 10).toInt = if x.toInt = 0 then 9 else x.toInt - 1) := by
  have T : ∀ k : Nat, k < 10 → (((nI k + 1) - (nI k + 1) / 10 * 10).toInt = if k = 9 then 0 else (k : Int) + 1) ∧ ((((nI k + 10) - 1) - ((nI k + 10) - 1) / 10 * 10).toInt = if k = 0 then 9 else (k : Int) - 1) := by decide +kernel
  have q := T x.toInt.toNat (by omega)
  rw [nI_tn h.1] at q
  refine ⟨q.1.trans ?_, q.2.trans ?_⟩
  · by_cases c : x.toInt = 9
    · rw [if_pos (by omega), if_pos c]
    · rw [if_neg (by omega), if_neg c]
      omega
  · by_cases c : x.toInt = 0
    · rw [if_pos (by omega), if_pos c]
    · rw [if_neg (by omega), if_neg c]
      omega
theorem sm_push {P6 : Pa → Prop} {P7 : Md → Prop} {s6 : Pa} {s2 : Bd} {m : Md} {N R W D : Int} (hp : pa s6) (hP : RP s6 m) (hB : RB s2 (m.2.2.1 0)) (hM : mb N R W D m) (hs : R ≤ 0 ∨ 0 < D) (h6 : wp_X3_push P6 s6 s2) (h7 : wp_X7_keepsAct P7 m) : ∃ pa' m', P6 pa' ∧ P7 m' ∧ RP pa' m' ∧ mb N R W D m' ∧ ie [0] m'.1 m.1 ∧ m'.2.1 = m.2.1 ∧ m'.2.2.2 = m.2.2.2 ∧ (∀ k, ¬ k = 1 → m'.2.2.1 k = m.2.2.1 k) := by
  have e1 : (1 : Int32).toInt = 1 := rfl
  have e10 : (10 : Int32).toInt = 10 := rfl
  obtain ⟨⟨p1, p2, p3, p4⟩, _⟩ := hp
  obtain ⟨u, h7, k7, mu⟩ := dt_both (dt_X7_keepsAct m) (P := P7) (Q := fun u => KA m u ∧ mb N R W D u) h7 (dt_conj (dt_X7_keepsAct m) (wr_keepsAct (s0 := m) hM.2.1) (wq_X7_keepsAct hM hs (fun u a _ _ => a)))
  obtain ⟨k1, k2, k3, k4, k5, k6, k8⟩ := k7
  -- the class's side
  have C : ∃ S, AG S s2 ∧ P6 ((va_up (va_up s6.1 0 (if 10 < ((s6.1 0) + 1) then 10 else ((s6.1 0) + 1))) 1 (((s6.1 1) + 1) - ((s6.1 1) + 1) / 10 * 10)), (va_up s6.2 (Int32.toNatClampNeg (s6.1 1)) (some S))) := by
    unfold wp_X3_push at h6
    have h6 := h6.2
    cases hc : s6.2 (Int32.toNatClampNeg (s6.1 1)) with
    | none =>
      rw [hc] at h6
      obtain ⟨S, g, a⟩ := e0_copyAll h6
      exact ⟨S, a, g⟩
    | some S2 =>
      rw [hc] at h6
      obtain ⟨S, g, a⟩ := e0_copyAll h6
      exact ⟨S, a, g⟩
  obtain ⟨S, aS, g6⟩ := C
  refine ⟨_, u, g6, h7, ⟨?_, fun j hj => ?_⟩, mu, k2, k3, k4, k5⟩
  · show (if 10 < ((s6.1 0) + 1) then 10 else ((s6.1 0) + 1)) = u.1 0
    have a := nw (tq_addr e1 (s6.1 0)) (by omega)
    rw [← hP.1] at k1
    by_cases c : 10 < s6.1 0 + 1
    · have := q_lt c
      rw [if_pos c]
      refine Int32.toInt_inj.mp ?_
      rw [k1, if_neg (by omega)]
      exact e10
    · have := q_nlt c
      rw [if_neg c]
      refine Int32.toInt_inj.mp ?_
      rw [k1, if_pos (by omega)]
      exact a
  · have d10 := (md10 (x := s6.1 1) ⟨p3, p4⟩).1
    show ∃ b, va_up s6.2 (Int32.toNatClampNeg (s6.1 1)) (some S) (((((s6.1 1) + 1) - ((s6.1 1) + 1) / 10 * 10).toInt.toNat + 9 - j) % 10) = some b ∧ RB b (pw u j)
    rw [d10, tn_i]
    have rR := hM.2.2.2.2.1
    by_cases cj : j = 0
    · subst cj
      have ix : ((if (s6.1 1).toInt = 9 then 0 else (s6.1 1).toInt + 1).toNat + 9 - 0) % 10 = (s6.1 1).toInt.toNat := by
        by_cases c : (s6.1 1).toInt = 9
        · rw [if_pos c]
          omega
        · rw [if_neg c]
          omega
      rw [ix]
      refine ⟨S, va_up_self _ _ _, ?_⟩
      exact RB_cg rR (fun i hi => k6 i (by omega)) (RB_ag rR aS hB)
    · obtain ⟨i, rfl⟩ : ∃ i, j = i + 1 := ⟨j - 1, by omega⟩
      have hi : (i : Int) < (m.1 0).toInt := by
        by_cases c : (m.1 0).toInt < 10
        · rw [if_pos c] at k1
          omega
        · rw [if_neg c] at k1
          omega
      have hi9 : i < 9 := by
        have := mu.2.1
        omega
      obtain ⟨b, b1, b2⟩ := hP.2 i hi
      have ix : ((if (s6.1 1).toInt = 9 then 0 else (s6.1 1).toInt + 1).toNat + 9 - (i + 1)) % 10 = ((s6.1 1).toInt.toNat + 9 - i) % 10 := by
        by_cases c : (s6.1 1).toInt = 9
        · rw [if_pos c]
          omega
        · rw [if_neg c]
          omega
      have ne : ¬ ((s6.1 1).toInt.toNat + 9 - i) % 10 = (s6.1 1).toInt.toNat := by omega
      rw [ix]
      refine ⟨b, (va_up_ne _ _ ne).trans b1, ?_⟩
      obtain ⟨R4, W4, D4, g1, _⟩ := pw_ok hM hi
      exact RB_cg g1 (fun k hk => k8 i (by omega) k (by omega)) b2

/-! undo, keep, back. -/
theorem db2 {A B : Type} {F : (A → B → Prop) → Prop} (h : dt (fun P : A × B → Prop => F (fun a b => P (a, b))) (fun P : A × B → Prop => F (fun a b => P (a, b)))) {P Q : A → B → Prop} (a : F P) (b : F Q) : ∃ x y, P x y ∧ Q x y := by
  obtain ⟨o, p, q⟩ := dt_both h (P := fun o => P o.1 o.2) (Q := fun o => Q o.1 o.2) a b
  exact ⟨o.1, o.2, p, q⟩
def UN (s : Md) (r : Int32) (u : Md) : Prop := ((s.1 0) = 0 ∧ r = -1 ∧ u = s) ∨ (¬ (s.1 0) = 0 ∧ r = s.1 0 - 1 ∧ u.1 = va_up s.1 0 (s.1 0 - 1) ∧ u.2.1 = s.2.1 ∧ u.2.2.2 = s.2.2.2 ∧ (∀ k, ¬ k = 0 → u.2.2.1 k = s.2.2.1 k) ∧ (∀ i : Nat, i < 6896 → u.2.2.1 0 i = pw s 0 i))
theorem wr_undo {s0 : Md} (h0 : 0 ≤ (s0.1 0).toInt ∧ (s0.1 0).toInt ≤ 10) : wp_X7_undo (UN s0) s0 := by
  unfold wp_X7_undo
  have e0 : (0 : Int32).toInt = 0 := rfl
  have e1 : (1 : Int32).toInt = 1 := rfl
  refine ⟨fun c => ?_, fun c => Or.inl ⟨c, rfl, rfl⟩⟩
  have c2 := q_neq c
  have s1 := nw (tq_subr e1 (s0.1 0)) (by omega)
  obtain ⟨nf, hf⟩ := fu_e 7000
  have v0 : (((va_up s0.1 0 ((s0.1 0) - 1)), s0.2.1, s0.2.2.1, s0.2.2.2) : Md).1 0 = s0.1 0 - 1 := rfl
  refine ⟨nf, wq_X7_undo_L21 (s := ((va_up s0.1 0 ((s0.1 0) - 1)), s0.2.1, s0.2.2.1, s0.2.2.2)) (by rw [v0]; omega) (fun t z b1 b2 b3 b4 b5 b6 => ?_) nf _ 0 rfl rfl rfl (fun _ _ => rfl) (fun i hi => ?_) (fun _ _ => rfl) (by omega) (by omega)⟩
  · rw [v0] at b5
    refine Or.inr ⟨c, ?_, b1, b2, b3, b4, fun i hi => ?_⟩
    · rw [b1]
      rfl
    · have q := b5 i hi
      rw [Nat.zero_add] at q
      rw [q]
      unfold pw
      have eN : 6896 * (s0.1 0 - 1).toInt.toNat + i = 6896 * ((s0.1 0).toInt.toNat - 1 - 0) + i := by
        rw [s1]
        omega
      rw [eN]
  · omega
theorem sm_undo {P6 : Int32 → Bd → Pa → Prop} {P7 : Int32 → Md → Prop} {s6 : Pa} {s2 : Bd} {m : Md} {N R W D : Int} (hp : pa s6) (hP : RP s6 m) (hB : RB s2 (m.2.2.1 0)) (hM : mb N R W D m) (h6 : wp_X6_undo P6 s2 s6) (h7 : wp_X7_undo P7 m) : ∃ r b p m', P6 r b p ∧ P7 r m' ∧ RB b (m'.2.2.1 0) ∧ RP p m' ∧ m'.2.2.2 = m.2.2.2 ∧ m'.2.2.1 2 = m.2.2.1 2 := by
  have e0 : (0 : Int32).toInt = 0 := rfl
  have e1 : (1 : Int32).toInt = 1 := rfl
  obtain ⟨⟨p1, p2, p3, p4⟩, _⟩ := hp
  obtain ⟨r, u, g7, k7⟩ := db2 (F := fun P => wp_X7_undo P m) (dt_X7_undo m) h7 (wr_undo (s0 := m) hM.2.1)
  unfold wp_X6_undo wp_X3_pop at h6
  rcases k7 with ⟨c, rfl, rfl⟩ | ⟨c, rfl, k1, k2, k3, k4, k5⟩
  · have h6 := (h6.2 (hP.1.trans c)).1 rfl
    exact ⟨_, _, _, _, h6, g7, hB, hP, rfl, rfl⟩
  · have c6 : ¬ s6.1 0 = 0 := fun g => c (hP.1.symm.trans g)
    have cq := q_neq c
    have s1 := nw (tq_subr e1 (m.1 0)) (by have := hM.2.1; omega)
    have h6 := (h6.1 c6).2
    have d10 := (md10 (x := s6.1 1) ⟨p3, p4⟩).2
    obtain ⟨b, b1, b2⟩ := hP.2 0 (by have := hM.2.1; omega)
    have ix : Int32.toNatClampNeg ((((s6.1 1) + 10) - 1) - (((s6.1 1) + 10) - 1) / 10 * 10) = ((s6.1 1).toInt.toNat + 9 - 0) % 10 := by
      rw [tn_i, d10]
      by_cases c : (s6.1 1).toInt = 0
      · rw [if_pos c]
        omega
      · rw [if_neg c]
        omega
    rw [ix, b1] at h6
    obtain ⟨S, h6, aS⟩ := e0_copyAll h6
    have h6 := h6.2 (by decide)
    have hr : (((va_up (va_up s6.1 0 ((s6.1 0) - 1)) 1 ((((s6.1 1) + 10) - 1) - (((s6.1 1) + 10) - 1) / 10 * 10)), s6.2) : Pa).1 0 = m.1 0 - 1 := by
      show s6.1 0 - 1 = _
      rw [hP.1]
    rw [hr] at h6
    obtain ⟨R4, W4, D4, g1, _⟩ := pw_ok hM (j := 0) (by have := hM.2.1; omega)
    refine ⟨_, _, _, u, h6, g7, RB_cg g1 (fun i hi => k5 i (by omega)) (RB_ag g1 aS b2), ⟨?_, fun j hj => ?_⟩, k3, k4 2 (by decide)⟩
    · rw [hr, k1]
      rfl
    · have u0 : u.1 0 = m.1 0 - 1 := by rw [k1]; rfl
      rw [u0, s1] at hj
      obtain ⟨b', c1, c2⟩ := hP.2 (j + 1) (by omega)
      have ix2 : (((((s6.1 1) + 10) - 1) - (((s6.1 1) + 10) - 1) / 10 * 10).toInt.toNat + 9 - j) % 10 = ((s6.1 1).toInt.toNat + 9 - (j + 1)) % 10 := by
        have := hM.2.1
        rw [d10]
        by_cases c : (s6.1 1).toInt = 0
        · rw [if_pos c]
          omega
        · rw [if_neg c]
          omega
      refine ⟨b', ?_, ?_⟩
      · show s6.2 ((((((s6.1 1) + 10) - 1) - (((s6.1 1) + 10) - 1) / 10 * 10).toInt.toNat + 9 - j) % 10) = _
        rw [ix2]
        exact c1
      · have ep : pw u j = pw m (j + 1) := by
          funext i
          unfold pw
          have eN : 6896 * ((m.1 0 - 1).toInt.toNat - 1 - j) + i = 6896 * ((m.1 0).toInt.toNat - 1 - (j + 1)) + i := by
            rw [s1]
            omega
          rw [u0, k4 1 (by decide), eN]
        rw [ep]
        exact c2
/-! the shelves -/
def RSh (z7 : Nat → Option Bd) (m : Md) : Prop := ∀ k : Nat, k < 2 → (z7 k = none ∧ m.2.2.2 0 k = 0) ∨ (∃ b, z7 k = some b ∧ ¬ m.2.2.2 0 k = 0 ∧ RB b (fun i => m.2.2.1 2 (6896 * k + i)))
def KP (s : Md) (x : Int32) (r : Int32) (u : Md) : Prop := ((x.toInt < 0 ∨ 1 < x.toInt) ∧ r = -1 ∧ u = s) ∨ ((0 ≤ x.toInt ∧ x.toInt ≤ 1) ∧ r = Int64.toInt32 (s.2.2.1 0 0) * Int64.toInt32 (s.2.2.1 0 1) ∧ u.1 = s.1 ∧ u.2.1 = s.2.1 ∧ (∀ k, ¬ k = 2 → u.2.2.1 k = s.2.2.1 k) ∧ (∀ i : Nat, i < 6896 → u.2.2.1 2 (6896 * x.toInt.toNat + i) = s.2.2.1 0 i) ∧ (∀ k : Nat, k < 2 → ¬ k = x.toInt.toNat → ∀ i : Nat, i < 6896 → u.2.2.1 2 (6896 * k + i) = s.2.2.1 2 (6896 * k + i)) ∧ ¬ u.2.2.2 0 x.toInt.toNat = 0 ∧ (∀ k : Nat, ¬ k = x.toInt.toNat → u.2.2.2 0 k = s.2.2.2 0 k) ∧ (∀ j, ¬ j = 0 → u.2.2.2 j = s.2.2.2 j))
theorem wr_keep {s0 : Md} {x1 : Int32} : wp_X7_keep (KP s0 x1) s0 x1 := by
  unfold wp_X7_keep
  have e0 : (0 : Int32).toInt = 0 := rfl
  have l0 : (0 : Int64).toInt = 0 := rfl
  have l1 : (1 : Int64).toInt = 1 := rfl
  have x64 := tq_64 x1
  refine wq_X7_in (fun r1 b => ⟨fun c => ?_, fun c => ?_⟩)
  · have c2 := q_neq c
    have hx : 0 ≤ x1.toInt ∧ x1.toInt ≤ 1 := by omega
    obtain ⟨nf, hf⟩ := fu_e 7000
    refine ⟨nf, wq_X7_keep_L14 (s := s0) hx (fun t z b1 b2 b3 b4 b5 b6 => ?_) nf s0 0 rfl rfl rfl (fun _ _ => rfl) (fun i hi => ?_) (fun _ _ => rfl) (by omega) (by omega)⟩
    · refine ⟨vi (by omega) (by omega), ?_⟩
      unfold wp_X7_cells wp_X7_rows wp_X7_wide
      have t0 : t.2.2.1 0 = s0.2.2.1 0 := b4 0 (by decide)
      refine Or.inr ⟨hx, ?_, b1, b2, b4, fun i hi => ?_, fun k hk hn i hi => ?_, ?_, fun k hk => ?_, fun j hj => ?_⟩
      · show Int64.toInt32 (t.2.2.1 0 0) * Int64.toInt32 (t.2.2.1 0 1) = _
        rw [t0]
      · have q := b5 i hi
        rw [Nat.zero_add] at q
        exact q
      · exact b6 _ (by omega)
      · show ¬ upd (t.2.2.2 0) (Int32.toNatClampNeg x1) (vp_nar .boolean 1) x1.toInt.toNat = 0
        rw [tn_i]
        show ¬ (if x1.toInt.toNat = x1.toInt.toNat then (vp_nar .boolean 1) else _) = 0
        rw [if_pos rfl]
        decide
      · show (if k = Int32.toNatClampNeg x1 then (vp_nar .boolean 1) else t.2.2.2 0 k) = _
        rw [tn_i, if_neg hk, b3]
      · show va_up t.2.2.2 0 _ j = _
        rw [va_up_ne _ _ hj, b3]
    · omega
  · exact Or.inl ⟨by
      have c2 := q_eq c
      omega, rfl, rfl⟩
theorem e6_isShelf {P : Int32 → Prop} {x : Int32} (h : wp_X6_isShelf P x) : (P 1 ∧ 0 ≤ x.toInt ∧ x.toInt ≤ 1) ∨ (P 0 ∧ (x.toInt < 0 ∨ 1 < x.toInt)) := by
  have e0 : (0 : Int32).toInt = 0 := rfl
  have e2 : (2 : Int32).toInt = 2 := rfl
  unfold wp_X6_isShelf at h
  by_cases c : x < 0
  · have := q_lt c
    exact Or.inr ⟨h.1 c, by omega⟩
  · have h := h.2 c
    have := q_nlt c
    by_cases c2 : 2 ≤ x
    · have := q_le c2
      exact Or.inr ⟨h.1 c2, by omega⟩
    · have := q_nle c2
      exact Or.inl ⟨h.2 c2, by omega⟩
theorem RP_k {p : Pa} {m u : Md} (h : RP p m) (h0 : u.1 0 = m.1 0) (h1 : u.2.2.1 1 = m.2.2.1 1) : RP p u := by
  have ep : ∀ j, pw u j = pw m j := fun j => by
    funext i
    unfold pw
    rw [h0, h1]
  refine ⟨h.1.trans h0.symm, fun j hj => ?_⟩
  rw [h0] at hj
  rw [ep]
  exact h.2 j hj
theorem RSh_k {z : Nat → Option Bd} {m u : Md} (h : RSh z m) (h0 : u.2.2.2 0 = m.2.2.2 0) (h1 : u.2.2.1 2 = m.2.2.1 2) : RSh z u := by
  intro k hk
  rw [h0, h1]
  exact h k hk
theorem sm_keep {P6 : Int32 → (Nat → Option Bd) → Prop} {P7 : Int32 → Md → Prop} {z7 : Nat → Option Bd} {s2 : Bd} {m : Md} {x : Int32} {N R W D : Int} (hS : RSh z7 m) (hB : RB s2 (m.2.2.1 0)) (hM : mb N R W D m) (h6 : wp_X6_keep P6 s2 z7 x) (h7 : wp_X7_keep P7 m x) : ∃ r z m', P6 r z ∧ P7 r m' ∧ RSh z m' ∧ m'.1 0 = m.1 0 ∧ m'.2.2.1 0 = m.2.2.1 0 ∧ m'.2.2.1 1 = m.2.2.1 1 := by
  obtain ⟨r, u, g7, k7⟩ := db2 (F := fun P => wp_X7_keep P m x) (dt_X7_keep m x) h7 (wr_keep (s0 := m) (x1 := x))
  unfold wp_X6_keep at h6
  rcases e6_isShelf h6 with ⟨h6, x0, x1⟩ | ⟨h6, hx⟩
  · rcases k7 with ⟨k1, _⟩ | ⟨_, rfl, k1, k2, k3, k4, k5, k6, k8, k9⟩
    · omega
    · have h6 := (h6.1 (by decide)).2
      rw [tn_i] at h6
      have er : Int64.toInt32 (m.2.2.1 0 0) * Int64.toInt32 (m.2.2.1 0 1) = s2.1 0 * s2.1 1 := by rw [hB.1.1, hB.1.2.1]
      have C : ∃ S, AG S s2 ∧ P6 (s2.1 0 * s2.1 1) (va_up z7 x.toInt.toNat (some S)) := by
        cases hc : z7 x.toInt.toNat with
        | none =>
          rw [hc] at h6
          obtain ⟨S, g, a⟩ := e0_copyAll h6
          exact ⟨S, a, cells6_e g⟩
        | some S2 =>
          rw [hc] at h6
          obtain ⟨S, g, a⟩ := e0_copyAll h6
          exact ⟨S, a, cells6_e g⟩
      obtain ⟨S, aS, g6⟩ := C
      rw [er] at g7
      refine ⟨_, _, u, g6, g7, fun k hk => ?_, by rw [k1], k3 0 (by decide), k3 1 (by decide)⟩
      have rR := hM.2.2.2.2.1
      by_cases c : k = x.toInt.toNat
      · subst c
        exact Or.inr ⟨S, va_up_self _ _ _, k6, RB_cg rR (fun i hi => k4 i (by omega)) (RB_ag rR aS hB)⟩
      · rcases hS k hk with ⟨a1, a2⟩ | ⟨b, a1, a2, a3⟩
        · exact Or.inl ⟨(va_up_ne _ _ c).trans a1, (k8 k c).trans a2⟩
        · obtain ⟨R4, W4, D4, g1, _⟩ := hM.2.2.2.2.2.2.1 k hk a2
          exact Or.inr ⟨b, (va_up_ne _ _ c).trans a1, by rw [k8 k c]; exact a2, RB_cg g1 (fun i hi => k5 k hk c i (by omega)) a3⟩
  · rcases k7 with ⟨_, rfl, rfl⟩ | ⟨k1, _⟩
    · exact ⟨_, _, _, h6.2 rfl, g7, hS, rfl, rfl, rfl⟩
    · omega
def BK (s : Md) (x : Int32) (r : Int32) (u : Md) : Prop := ((x.toInt < 0 ∨ 1 < x.toInt) ∧ r = -1 ∧ u = s) ∨ ((0 ≤ x.toInt ∧ x.toInt ≤ 1) ∧ s.2.2.2 0 x.toInt.toNat = 0 ∧ r = -2 ∧ u = s) ∨ ((0 ≤ x.toInt ∧ x.toInt ≤ 1) ∧ ¬ s.2.2.2 0 x.toInt.toNat = 0 ∧ r = Int64.toInt32 (s.2.2.1 2 (6896 * x.toInt.toNat + 0)) * Int64.toInt32 (s.2.2.1 2 (6896 * x.toInt.toNat + 1)) ∧ u.1 0 = 0 ∧ u.2.2.2 = s.2.2.2 ∧ (∀ k, ¬ k = 0 → u.2.2.1 k = s.2.2.1 k) ∧ (∀ i : Nat, i < 6896 → u.2.2.1 0 i = s.2.2.1 2 (6896 * x.toInt.toNat + i)))
theorem wr_back {s0 : Md} {x1 : Int32} : wp_X7_back (BK s0 x1) s0 x1 := by
  unfold wp_X7_back
  have e0 : (0 : Int32).toInt = 0 := rfl
  have l0 : (0 : Int64).toInt = 0 := rfl
  have l1 : (1 : Int64).toInt = 1 := rfl
  have x64 := tq_64 x1
  refine wq_X7_in (fun r1 b => ⟨fun c => ?_, fun c => ?_⟩)
  · have c2 := q_neq c
    have hx : 0 ≤ x1.toInt ∧ x1.toInt ≤ 1 := by omega
    have ti := tn_i x1
    refine ⟨vi (by omega) (by omega), fun g => ?_, fun g => Or.inr (Or.inl ⟨hx, by rw [← ti]; exact g, rfl, rfl⟩)⟩
    rw [ti] at g
    obtain ⟨nf, hf⟩ := fu_e 7000
    refine ⟨nf, wq_X7_back_L26 (s := s0) hx (fun t z b1 b2 b3 b4 b5 b6 => ?_) nf s0 0 rfl rfl rfl (fun _ _ => rfl) (fun i hi => ?_) (fun _ _ => rfl) (by omega) (by omega)⟩
    · unfold wp_X7_cells wp_X7_rows wp_X7_wide
      have q0 := b5 0 (by omega)
      have q1 := b5 1 (by omega)
      rw [Nat.zero_add] at q1
      refine Or.inr (Or.inr ⟨hx, g, ?_, rfl, b3, b4, fun i hi => ?_⟩)
      · show Int64.toInt32 (t.2.2.1 0 0) * Int64.toInt32 (t.2.2.1 0 1) = _
        rw [q1]
        exact congrArg (fun y => Int64.toInt32 y * _) q0
      · have q := b5 i hi
        rw [Nat.zero_add] at q
        exact q
    · omega
  · exact Or.inl ⟨by
      have c2 := q_eq c
      omega, rfl, rfl⟩
theorem sm_back {P6 : Int32 → Bd → Pa → (Nat → Option Bd) → Prop} {P7 : Int32 → Md → Prop} {s6 : Pa} {z7 : Nat → Option Bd} {s2 : Bd} {m : Md} {x : Int32} {N R W D : Int} (hP : RP s6 m) (hS : RSh z7 m) (hB : RB s2 (m.2.2.1 0)) (hM : mb N R W D m) (h6 : wp_X6_back P6 s2 s6 z7 x) (h7 : wp_X7_back P7 m x) : ∃ r b p z m', P6 r b p z ∧ P7 r m' ∧ RB b (m'.2.2.1 0) ∧ RP p m' ∧ RSh z m' := by
  have e0 : (0 : Int32).toInt = 0 := rfl
  obtain ⟨r, u, g7, k7⟩ := db2 (F := fun P => wp_X7_back P m x) (dt_X7_back m x) h7 (wr_back (s0 := m) (x1 := x))
  unfold wp_X6_back at h6
  rcases e6_isShelf h6 with ⟨h6, x0, x1⟩ | ⟨h6, hx⟩
  · have h6 := (h6.1 (by decide)).2
    rw [tn_i] at h6
    rcases k7 with ⟨k1, _⟩ | ⟨_, k0, rfl, rfl⟩ | ⟨_, k0, rfl, k1, k3, k4, k5⟩
    · omega
    · rcases hS x.toInt.toNat (by omega) with ⟨a1, a2⟩ | ⟨b, a1, a2, a3⟩
      · rw [a1] at h6
        exact ⟨_, _, _, _, _, h6, g7, hB, hP, hS⟩
      · exact (a2 k0).elim
    · rcases hS x.toInt.toNat (by omega) with ⟨a1, a2⟩ | ⟨b, a1, a2, a3⟩
      · exact (k0 a2).elim
      · rw [a1] at h6
        obtain ⟨S, h6, aS⟩ := e0_copyAll h6
        have h6 := cells6_e h6
        have er : Int64.toInt32 (m.2.2.1 2 (6896 * x.toInt.toNat + 0)) * Int64.toInt32 (m.2.2.1 2 (6896 * x.toInt.toNat + 1)) = S.1 0 * S.1 1 := by
          rw [aS.1.1, aS.1.2.1, a3.1.1, a3.1.2.1]
        rw [er] at g7
        obtain ⟨R4, W4, D4, g1, _⟩ := hM.2.2.2.2.2.2.1 x.toInt.toNat (by omega) a2
        refine ⟨_, _, _, _, u, h6, g7, RB_cg g1 (fun i hi => k5 i (by omega)) (RB_ag g1 aS a3), ⟨?_, fun j hj => ?_⟩, RSh_k hS (by rw [k3]) (k4 2 (by decide))⟩
        · show 0 = u.1 0
          rw [k1]
        · rw [k1] at hj
          omega
  · rcases k7 with ⟨_, rfl, rfl⟩ | ⟨k1, _⟩ | ⟨k1, _⟩
    · exact ⟨_, _, _, _, _, h6.2 rfl, g7, hB, hP, hS⟩
    · omega
    · omega

/-! tell: the relation behind it. -/
theorem fr_cj {O : Type} {F : (O → Prop) → Prop} {I P : O → Prop} (d : dt F F) (x : xf F I) (h : F P) : F (fun o => P o ∧ I o) := by
  obtain ⟨o, p, mk, _⟩ := d P h
  obtain ⟨o', e, i⟩ := x (fun a => a = o) (mk _ rfl)
  rw [e] at i
  exact mk _ ⟨p, i⟩
theorem fr_cj2 {A B : Type} {F : (A → B → Prop) → Prop} {I : A × B → Prop} {P : A → B → Prop} (d : dt (fun P : A × B → Prop => F (fun a b => P (a, b))) (fun P : A × B → Prop => F (fun a b => P (a, b)))) (x : xf (fun P : A × B → Prop => F (fun a b => P (a, b))) I) (h : F P) : F (fun a b => P a b ∧ I (a, b)) := fr_cj (P := fun o => P o.1 o.2) d x h
def TBK (s u : Md) : Prop := u.1 = s.1 ∧ u.2.1 = s.2.1 ∧ u.2.2.2 = s.2.2.2 ∧ (∀ k, ¬ k = 0 → u.2.2.1 k = s.2.2.1 k) ∧ (∀ i : Nat, i < 6896 → u.2.2.1 0 i = s.2.2.1 3 i)
theorem e7_takesBack {P : Md → Prop} {s : Md} (h : wp_X7_takesBack P s) : ∃ u, P u ∧ TBK s u := by
  refine dt_both (dt_X7_takesBack s) h ?_
  unfold wp_X7_takesBack
  have e0 : (0 : Int32).toInt = 0 := rfl
  obtain ⟨nf, hf⟩ := fu_e 7000
  refine ⟨nf, wq_X7_takesBack_L2 (s := s) (fun t z b1 b2 b3 b4 b5 b6 => ⟨b1, b2, b3, b4, fun i hi => ?_⟩) nf s 0 rfl rfl rfl (fun _ _ => rfl) (fun i hi => ?_) (fun _ _ => rfl) (by omega) (by omega)⟩
  · omega
  · have q := b5 i hi
    rw [Nat.zero_add] at q
    exact q
def ASD (s u : Md) : Prop := u.1 = s.1 ∧ u.2.1 = s.2.1 ∧ u.2.2.2 = s.2.2.2 ∧ (∀ k, ¬ k = 3 → u.2.2.1 k = s.2.2.1 k) ∧ (∀ i : Nat, i < 6896 → u.2.2.1 3 i = s.2.2.1 0 i)
theorem e7_putsAside {P : Md → Prop} {s : Md} (h : wp_X7_putsAside P s) : ∃ u, P u ∧ ASD s u := by
  refine dt_both (dt_X7_putsAside s) h ?_
  unfold wp_X7_putsAside
  have e0 : (0 : Int32).toInt = 0 := rfl
  obtain ⟨nf, hf⟩ := fu_e 7000
  refine ⟨nf, wq_X7_putsAside_L2 (s := s) (fun t z b1 b2 b3 b4 b5 b6 => ⟨b1, b2, b3, b4, fun i hi => ?_⟩) nf s 0 rfl rfl rfl (fun _ _ => rfl) (fun i hi => ?_) (fun _ _ => rfl) (by omega) (by omega)⟩
  · omega
  · have q := b5 i hi
    rw [Nat.zero_add] at q
    exact q
theorem ASD_mb {N R W D : Int} {s u : Md} (hM : mb N R W D s) (hs : R ≤ 0 ∨ 0 < D) (h : ASD s u) : mb N R W D u := by
  obtain ⟨b1, b2, b3, b4, b5⟩ := h
  obtain ⟨a0, a1, a2, a3, a4, a5, a6, a7⟩ := id hM
  refine ⟨by rw [b1]; exact a0, by rw [b1]; exact a1, a2, a3, by rw [b4 0 (by decide)]; exact a4, fun kk hk => ?_, fun kk hk hn => ?_, rk_congr (rk_now hM hs) b5⟩
  · rw [b1] at hk
    rw [b4 1 (by decide)]
    exact a5 kk hk
  · rw [b4 2 (by decide)]
    rw [b3] at hn
    exact a6 kk hk hn
set_option maxHeartbeats 4000000 in
theorem sm_tellF {P6 : Int32 → Tp → Bd → Bd → Pa → Prop} {P7 : Int32 → Md → Prop} {s1 : Tp} {s2 s3 : Bd} {s6 : Pa} {z7 : Nat → Option Bd} {m : Md} {N R W D : Int} (hx : RX s1 m) (hB : RB s2 (m.2.2.1 0)) (hP : RP s6 m) (hS : RSh z7 m) (hM : mb N R W D m) (hs : R ≤ 0 ∨ 0 < D) (hq : ∀ r v, P7 r v → ∃ N R W D, mb N R W D v) (h6 : wp_X6_tell P6 s1 s2 s3 s6) (h7 : wp_X7_tell P7 m) : ∃ r t' b2 b3 pa v, P6 r t' b2 b3 pa ∧ P7 r v ∧ RB b2 (v.2.2.1 0) ∧ RP pa v ∧ RSh z7 v := by
  unfold wp_X6_tell wp_X1_readInto at h6
  unfold wp_X7_tell at h7
  obtain ⟨b, h6, hZ⟩ := e0_clear h6
  unfold wp_X5_startReading at h6
  obtain ⟨w, h7, hw⟩ := e7_putsAside h7
  have mw := ASD_mb hM hs hw
  obtain ⟨w1, w2, w3, w4, w5⟩ := hw
  obtain ⟨n, h7⟩ := h7
  have z0 : (0 : Int32).toInt = 0 := rfl
  obtain ⟨v, z', h7, f1, _, f3⟩ := e7_zero_L n w 0 (by decide) (by decide) h7
  have hv0 : ∀ i : Nat, i < 6896 → v.2.2.1 0 i = 0 := fun i hi => f3 i (by rw [z0]; omega) hi
  have mv : mb N 0 0 0 v := mb_row mw (by rw [f1.1]) (by rw [f1.1]) f1.2.2.1 (by rw [f1.2.2.2]) (rw_zero hv0)
  have v1 : v.1 = m.1 := f1.1.trans w1
  have vt : v.2.2.2 = m.2.2.2 := f1.2.2.2.trans w3
  have rt : RT ((va_up (va_up (va_up (va_up (va_up s1.1 1 0) 2 0) 3 0) 4 0) 5 0), s1.2) ((va_up v.1 6 0), v.2.1, v.2.2.1, v.2.2.2) := by
    refine ⟨?_, rfl, (show (0 : Int) ≤ (0 : Int32).toInt by decide), ?_, rfl⟩
    · show s1.1 0 = v.1 5 ∧ s1.2 = (fun k => v.2.2.2 2 k &&& 255) ∧ 0 ≤ (v.1 5).toInt ∧ (v.1 5).toInt ≤ 400 ∧ (∀ k, -128 ≤ (v.2.2.2 2 k).toInt ∧ (v.2.2.2 2 k).toInt ≤ 127)
      rw [v1, vt]
      exact hx
    · show (0 : Int32).toInt ≤ (v.1 5).toInt
      rw [v1, z0]
      exact hx.2.2.1
  have v21 : v.2.2.1 1 = m.2.2.1 1 := (f1.2.2.1 1 (by decide)).trans (w4 1 (by decide))
  have v22 : v.2.2.1 2 = m.2.2.1 2 := (f1.2.2.1 2 (by decide)).trans (w4 2 (by decide))
  have v23 : ∀ i, i < 6896 → v.2.2.1 3 i = m.2.2.1 0 i := fun i hi => by
    rw [f1.2.2.1 3 (by decide)]
    exact w5 i hi
  have h7 := fr_cj2 (F := fun P => wp_X7_readsBoard P v) (dt_X7_readsBoard v) (fp_X7_readsBoard v) h7
  have h7 := fr_cj2 (F := fun P => wp_X7_readsBoard P v) (dt_X7_readsBoard v) (fd_X7_readsBoard v) h7
  obtain ⟨b', t', r, y, g1, ⟨⟨g2, g8⟩, g9⟩, g3⟩ := sm_board (P6 := fun u_2a u_2b => wp_X5_isSound (fun r_3 => ((¬ r_3 = 0 → wp_X0_copyAllButLog (fun u_7 => wp_X0_emptyLog (fun b_10 => P6 (b_10.1 3) ((va_up u_2b.1 0 0), u_2b.2) b_10 u_2a ((va_up s6.1 0 0), s6.2)) u_7) s2 u_2a) ∧ (r_3 = 0 → P6 ((-2) - (u_2b.1 5)) ((va_up u_2b.1 0 0), u_2b.2) s2 u_2a s6))) ((va_up u_2b.1 0 0), u_2b.2)) hZ mv hv0 rt h6 h7
  have g8 : (y.1 0, y.2.2.1 1, y.2.2.1 2, y.2.2.2 0) = (v.1 0, v.2.2.1 1, v.2.2.1 2, v.2.2.2 0) := g8
  have g9 : y.2.2.1 3 = v.2.2.1 3 := g9
  have y0 : y.1 0 = m.1 0 := (congrArg Prod.fst g8).trans (by rw [v1])
  have y1 : y.2.2.1 1 = m.2.2.1 1 := (congrArg (fun a => a.2.1) g8).trans v21
  have y2 : y.2.2.1 2 = m.2.2.1 2 := (congrArg (fun a => a.2.2.1) g8).trans v22
  have y3 : y.2.2.2 0 = m.2.2.2 0 := (congrArg (fun a => a.2.2.2) g8).trans (by rw [vt])
  rcases g3 with ⟨rfl, g4, g5, g6⟩ | ⟨rfl, g4⟩
  · have k6 := ((e5_isSound g1).1 g4).1 (by decide)
    obtain ⟨bb, k6, aS, _⟩ := e0_copyBut k6
    obtain ⟨b2, k6, e1, e2, e3⟩ := e0_emptyLog k6
    have k7 := drums_e (g2.1 (by decide))
    obtain ⟨N4, R4, W4, D4, hm4⟩ := hq _ _ k7
    have rR : rw_ok R4 W4 D4 (y.2.2.1 0) := hm4.2.2.2.2.1
    have er : b2.1 3 = Int64.toInt32 (y.2.2.1 0 3) := by
      rw [e1, aS.1.2.2.2.1]
      exact g5.1.2.2.2
    rw [er] at k6
    have a2 : AG b2 b' := by
      obtain ⟨a1, a2, a3, a4⟩ := aS
      refine ⟨by rw [e1]; exact a1, fun d hd => by rw [e2]; exact a2 d hd, fun k hk => by rw [e2]; exact a3 k hk, fun c hc => ?_⟩
      rw [e2, e3]
      exact a4 c hc
    refine ⟨_, _, _, _, _, _, k6, k7, RB_ag rR a2 g5, ⟨rfl, fun j hj => ?_⟩, RSh_k hS y3 y2⟩
    have hj2 : (j : Int) < (0 : Int32).toInt := hj
    omega
  · have k6 := ((e5_isSound g1).2 g4.2).2 rfl
    obtain ⟨v2, k7, t1, t2, t3, t4, t5⟩ := e7_takesBack (g2.2 rfl)
    have ee : (-2 : Int32) - (v2.1 7) = (-2) - (t'.1 5) := by
      rw [t1]
      show (-2 : Int32) - (y.1 7) = _
      rw [g4.1]
    rw [ee] at k7
    refine ⟨_, _, _, _, _, v2, k6, k7, RB_cg hM.2.2.2.2.1 (fun i hi => ?_) hB, RP_k hP (by rw [t1]; exact y0) ((t4 1 (by decide)).trans y1), RSh_k hS (by rw [t3]; exact y3) ((t4 2 (by decide)).trans y2)⟩
    rw [t5 i (by omega)]
    show y.2.2.1 3 i = _
    rw [g9, v23 i (by omega)]

/-! Acts: lose, limit, wear, mend, exchange. -/
def AR (m m' : Md) (b : Bd) (p : Pa) : Prop := RB b (m'.2.2.1 0) ∧ RP p m' ∧ m'.2.2.2 0 = m.2.2.2 0 ∧ m'.2.2.1 2 = m.2.2.1 2
theorem e0_hasCell {P : Int32 → Prop} {s : Bd} {x : Int32} {T : Int} (hT : (s.1 0 * s.1 1).toInt = T) (h : wp_X0_hasCell P s x) : (P 1 ∧ 0 ≤ x.toInt ∧ x.toInt < T) ∨ (P 0 ∧ (x.toInt < 0 ∨ T ≤ x.toInt)) := by
  have e0 : (0 : Int32).toInt = 0 := rfl
  unfold wp_X0_hasCell at h
  by_cases c : x < 0
  · have := q_lt c
    exact Or.inr ⟨h.1 c, by omega⟩
  · have h := cells6_e (h.2 c)
    have := q_nlt c
    by_cases c2 : s.1 0 * s.1 1 ≤ x
    · have := q_le c2
      exact Or.inr ⟨h.1 c2, by omega⟩
    · have := q_nle c2
      exact Or.inl ⟨h.2 c2, by omega⟩
theorem e0_hasRow {P : Int32 → Prop} {s : Bd} {x : Int32} (h : wp_X0_hasRow P s x) : (P 1 ∧ 0 ≤ x.toInt ∧ x.toInt < (s.1 0).toInt) ∨ (P 0 ∧ (x.toInt < 0 ∨ (s.1 0).toInt ≤ x.toInt)) := by
  have e0 : (0 : Int32).toInt = 0 := rfl
  unfold wp_X0_hasRow at h
  by_cases c : x < 0
  · have := q_lt c
    exact Or.inr ⟨h.1 c, by omega⟩
  · have h := h.2 c
    have := q_nlt c
    by_cases c2 : s.1 0 ≤ x
    · have := q_le c2
      exact Or.inr ⟨h.1 c2, by omega⟩
    · have := q_nle c2
      exact Or.inl ⟨h.2 c2, by omega⟩
theorem e0_isThere {P : Int32 → Prop} {s : Bd} (h : wp_X0_isThere P s) : (P 1 ∧ 0 < (s.1 0).toInt) ∨ (P 0 ∧ (s.1 0).toInt ≤ 0) := by
  have e0 : (0 : Int32).toInt = 0 := rfl
  unfold wp_X0_isThere at h
  by_cases c : s.1 0 ≤ 0
  · have := q_le c
    exact Or.inr ⟨h.1 c, by omega⟩
  · have := q_nle c
    exact Or.inl ⟨h.2 c, by omega⟩
theorem e7_isBoard {P : Int32 → Prop} {s : Md} {R W D : Int} (hf : rw_ok R W D (s.2.2.1 0)) (h : wp_X7_isBoard P s) : (P 1 ∧ 0 < D) ∨ (P 0 ∧ D ≤ 0) := by
  have e0 : (0 : Int32).toInt = 0 := rfl
  obtain ⟨_, _, n3, _⟩ := rw_n hf
  unfold wp_X7_isBoard at h
  have h := drums_e h
  by_cases c : Int64.toInt32 (s.2.2.1 0 3) ≤ 0
  · have := q_le c
    exact Or.inr ⟨h.1 c, by omega⟩
  · have := q_nle c
    exact Or.inl ⟨h.2 c, by omega⟩
theorem e7_in0 {P : Int32 → Prop} {x r : Int32} {T : Int} {a : Int64} {i : Int} (ha : a.toInt = i) (hr : r.toInt = T) (hT : -1000 ≤ T ∧ T ≤ 1000) (h : wp_X7_in P (Int32.toInt64 x) a (Int32.toInt64 (r - 1))) : (P 1 ∧ i ≤ x.toInt ∧ x.toInt < T) ∨ (P 0 ∧ (x.toInt < i ∨ T ≤ x.toInt)) := by
  have e1 : (1 : Int32).toInt = 1 := rfl
  have s1 := nw (tq_subr e1 r) (by omega)
  have x64 := tq_64 x
  have r64 := tq_64 (r - 1)
  rcases e7_in h with ⟨h, g1, g2⟩ | ⟨h, g⟩
  · exact Or.inl ⟨h, by omega, by omega⟩
  · exact Or.inr ⟨h, by omega⟩
theorem e7_isCell {P : Int32 → Prop} {s : Md} {x : Int32} {R W D : Int} (hf : rw_ok R W D (s.2.2.1 0)) (h : wp_X7_isCell P s x) : (P 1 ∧ 0 ≤ x.toInt ∧ x.toInt < R * W) ∨ (P 0 ∧ (x.toInt < 0 ∨ R * W ≤ x.toInt)) := by
  obtain ⟨_, _, _, n4, n5⟩ := rw_n hf
  unfold wp_X7_isCell at h
  have h := cells7_e h
  rcases e7_in0 (i := 0) rfl n4 (by omega) h with ⟨h, g⟩ | ⟨h, g⟩
  · exact Or.inl ⟨h.2, g⟩
  · exact Or.inr ⟨h.2, g⟩
theorem e7_isRow {P : Int32 → Prop} {s : Md} {x : Int32} {R W D : Int} (hf : rw_ok R W D (s.2.2.1 0)) (h : wp_X7_isRow P s x) : (P 1 ∧ 0 ≤ x.toInt ∧ x.toInt < R) ∨ (P 0 ∧ (x.toInt < 0 ∨ R ≤ x.toInt)) := by
  obtain ⟨n1, _, _, _, n5⟩ := rw_n hf
  unfold wp_X7_isRow at h
  have h := rows_e h
  rcases e7_in0 (i := 0) rfl n1 (by omega) h with ⟨h, g⟩ | ⟨h, g⟩
  · exact Or.inl ⟨h.2, g⟩
  · exact Or.inr ⟨h.2, g⟩
theorem e7_isDrum {P : Int32 → Prop} {s : Md} {x : Int32} {R W D : Int} (hf : rw_ok R W D (s.2.2.1 0)) (h : wp_X7_isDrum P s x) : (P 1 ∧ 0 ≤ x.toInt ∧ x.toInt < D) ∨ (P 0 ∧ (x.toInt < 0 ∨ D ≤ x.toInt)) := by
  obtain ⟨_, _, n3, _, n5⟩ := rw_n hf
  unfold wp_X7_isDrum at h
  have h := drums_e h
  rcases e7_in0 (i := 0) rfl n3 (by omega) h with ⟨h, g⟩ | ⟨h, g⟩
  · exact Or.inl ⟨h.2, g⟩
  · exact Or.inr ⟨h.2, g⟩
/-- lose -/
theorem sm_lose {P6 : Int32 → Bd → Pa → Prop} {P7 : Int32 → Md → Prop} {s6 : Pa} {s2 : Bd} {m : Md} {x1 x2 : Int32} {N R W D : Int} (hp : pa s6) (hP : RP s6 m) (hB : RB s2 (m.2.2.1 0)) (hM : mb N R W D m) (hs : R ≤ 0 ∨ 0 < D) (h6 : wp_X6_lose P6 s2 s6 x1 x2) (h7 : wp_X7_lose P7 m x1 x2) : ∃ r b p m', P6 r b p ∧ P7 r m' ∧ AR m m' b p := by
  have e0 : (0 : Int32).toInt = 0 := rfl
  have e9 : (9 : Int32).toInt = 9 := rfl
  have hf := hM.2.2.2.2.1
  have k40 : R * W ≤ 40 := hf.2.2.2.2.2.1.2.2.2.2.2.1
  have hc := RB_cells hf hB
  have fl : ∀ r, P6 r s2 s6 → P7 r m → ∃ r b p m', P6 r b p ∧ P7 r m' ∧ AR m m' b p := fun r a b => ⟨r, s2, s6, m, a, b, hB, hP, rfl, rfl⟩
  unfold wp_X6_lose at h6
  unfold wp_X7_lose at h7
  rcases e0_hasCell hc.2.2.1 h6 with ⟨h6, g1, g2⟩ | ⟨h6, g⟩
  · rcases e7_isCell hf h7 with ⟨h7, _, _⟩ | ⟨_, g⟩
    · have h6 := h6.2 (by decide)
      have h7 := h7.2 (by decide)
      rcases e7_inC (i := 0) (j := 9) rfl rfl h7 with ⟨h7, j1, j2⟩ | ⟨h7, j⟩
      · have c1 : ¬ x2 < 0 := fun c => by have := q_lt c; omega
        have c2 : x2 ≤ 9 := Int32.le_iff_toInt_le.mpr (by omega)
        have h6 := ((h6.2 c1).1 c2).2
        have h7 := e7_of (i := 4) g1 (by omega) rfl (by decide) (h7.1 (by decide))
        rw [tn_i] at h6
        have at_ := (RB_at (c := x1.toInt.toNat) hf hB (by omega)).1
        have a7 : s2.2.1 7 x1.toInt.toNat = _ := at_ 4 (by decide)
        rw [← a7] at h7
        by_cases c : s2.2.1 7 x1.toInt.toNat = x2
        · exact fl _ (h6.2 c) (h7.2 c)
        · obtain ⟨p, u, h6, h7, q1, q2, q3, q4, q5, q6⟩ := sm_push hp hP hB hM hs (h6.1 c) (h7.1 c)
          have u0 : u.2.2.1 0 = m.2.2.1 0 := q6 0 (by decide)
          obtain ⟨w, h7, f1, gw⟩ := e7_sets (i := 4) g1 (by omega) rfl (by decide) h7
          unfold wp_X0_setLost at h6
          rcases e0_hasCell hc.2.2.1 h6 with ⟨h6, _⟩ | ⟨_, g⟩
          · have h6 := (h6.2 (by decide)).2
            rw [tn_i] at h6
            refine ⟨_, _, _, w, h6, h7, ?_, RP_k q1 (by rw [f1.1]) (f1.2.2.1 1 (by decide)), by rw [f1.2.2.2, q5], (f1.2.2.1 2 (by decide)).trans (q6 2 (by decide))⟩
            rw [gw, u0]
            refine RB_c (c := x1.toInt.toNat) hB rfl ⟨rfl, rfl, rfl⟩ (fun j hj i hi => ?_) (fun i hi => rfl) (fun i hi => uL_n (by omega)) ⟨fun j hj => ?_, ?_⟩
            · show va_up s2.2.1 7 _ (3 + j) i = _
              by_cases q : j = 4
              · subst q
                exact up_n hi
              · rw [va_n (by omega)]
            · show va_up s2.2.1 7 _ (3 + j) x1.toInt.toNat = _
              by_cases q : j = 4
              · subst q
                rw [uL_e, t32_64]
                exact up_e
              · rw [va_n (by omega), uL_n (by omega)]
                exact at_ j hj
            · rw [uL_n (by omega)]
              exact ⟨(RB_at (c := x1.toInt.toNat) hf hB (by omega)).2, RB_w (c := x1.toInt.toNat) hf hB (by omega)⟩
          · omega
      · have h7 := h7.2 rfl
        by_cases c1 : x2 < 0
        · exact fl _ (h6.1 c1) h7
        · have := q_nlt c1
          have c2 : ¬ x2 ≤ 9 := fun c => by have := q_le c; omega
          exact fl _ ((h6.2 c1).2 c2) h7
    · omega
  · rcases e7_isCell hf h7 with ⟨_, _, _⟩ | ⟨h7, _⟩
    · omega
    · exact fl _ (h6.1 rfl) (h7.1 rfl)
/-- limit -/
theorem sm_limit {P6 : Int32 → Bd → Pa → Prop} {P7 : Int32 → Md → Prop} {s6 : Pa} {s2 : Bd} {m : Md} {x1 : Int32} {N R W D : Int} (hp : pa s6) (hP : RP s6 m) (hB : RB s2 (m.2.2.1 0)) (hM : mb N R W D m) (hs : R ≤ 0 ∨ 0 < D) (h6 : wp_X6_limit P6 s2 s6 x1) (h7 : wp_X7_limit P7 m x1) : ∃ r b p m', P6 r b p ∧ P7 r m' ∧ AR m m' b p := by
  have e0 : (0 : Int32).toInt = 0 := rfl
  have e1 : (1 : Int32).toInt = 1 := rfl
  have e99 : (99 : Int32).toInt = 99 := rfl
  have hf := hM.2.2.2.2.1
  have hc := RB_cells hf hB
  have hR := hf.2.2.2.2.2.1
  have fl : ∀ r, P6 r s2 s6 → P7 r m → ∃ r b p m', P6 r b p ∧ P7 r m' ∧ AR m m' b p := fun r a b => ⟨r, s2, s6, m, a, b, hB, hP, rfl, rfl⟩
  unfold wp_X6_limit at h6
  unfold wp_X7_limit at h7
  rcases e0_isThere h6 with ⟨h6, g1⟩ | ⟨h6, g⟩
  · rcases e7_isBoard hf h7 with ⟨h7, _⟩ | ⟨_, g⟩
    · have h6 := h6.2 (by decide)
      have h7 := h7.2 (by decide)
      rcases e7_inC (i := 1) (j := 99) rfl rfl h7 with ⟨h7, j1, j2⟩ | ⟨h7, j⟩
      · have c1 : ¬ x1 < 1 := fun c => by have := q_lt c; omega
        have c2 : x1 ≤ 99 := Int32.le_iff_toInt_le.mpr (by omega)
        have h6 := (h6.2 c1).1 c2
        have h7 := h7.1 (by decide)
        have t2 : Int32.toNatClampNeg 2 = 2 := rfl
        rw [t2, ← hB.1.2.2.1] at h7
        by_cases c : s2.1 2 = x1
        · exact fl _ (h6.2 c) (h7.2 c)
        · obtain ⟨p, u, h6, h7, q1, q2, q3, q4, q5, q6⟩ := sm_push hp hP hB hM hs (h6.1 c) (h7.1 c)
          have u0 : u.2.2.1 0 = m.2.2.1 0 := q6 0 (by decide)
          refine ⟨_, _, _, _, h6, h7, ?_, RP_k q1 rfl rfl, by rw [← q5], q6 2 (by decide)⟩
          show RB _ (vp_updL (u.2.2.1 0) 2 (Int32.toInt64 x1))
          rw [u0]
          obtain ⟨⟨b0, b1, b2, b3⟩, ⟨b4, b5⟩, b6⟩ := hB
          refine ⟨⟨?_, ?_, ?_, ?_⟩, ⟨?_, fun d hd => ?_⟩, fun c hc => ?_⟩
          · rw [uL_n (by decide)]
            exact b0
          · rw [uL_n (by decide)]
            exact b1
          · rw [uL_e, t32_64]
            rfl
          · rw [uL_n (by decide)]
            exact b3
          · rw [uL_n (by decide)]
            exact b4
          · rw [uL_n (by decide)] at hd
            have dd : d_f (vp_updL (m.2.2.1 0) 2 (Int32.toInt64 x1)) d = d_f (m.2.2.1 0) d := by unfold d_f; rw [uL_n (by omega)]
            rw [dd, uL_n (by omega), uL_n (by omega)]
            obtain ⟨d1, d2, d3, d4⟩ := b5 d hd
            refine ⟨DG_k d1 (fun i h1 h2 => uL_n (by omega)), d2, d3, fun k hk => ?_⟩
            rw [uL_n (by omega)]
            exact d4 k hk
          · rw [uL_n (by decide), uL_n (by decide)] at hc
            obtain ⟨d1, d2⟩ := b6 c hc
            refine ⟨fun j hj => ?_, ?_⟩
            · rw [uL_n (by omega)]
              exact d1 j hj
            · rw [uL_n (by omega)]
              exact d2
      · have h7 := h7.2 rfl
        by_cases c1 : x1 < 1
        · exact fl _ (h6.1 c1) h7
        · have := q_nlt c1
          have c2 : ¬ x1 ≤ 99 := fun c => by have := q_le c; omega
          exact fl _ ((h6.2 c1).2 c2) h7
    · omega
  · rcases e7_isBoard hf h7 with ⟨_, _⟩ | ⟨h7, _⟩
    · omega
    · exact fl _ (h6.1 rfl) (h7.1 rfl)

/-! wear, mend, exchange. -/
def flF (f : Nat → Int64) (c : Nat) : Int := d_f f (c_f f c 0).toNat
def CN (r6 r7 : Int32) : Prop := r6 = r7 ∨ ∃ y : Int64, wp_J13_bitCount_95d88 (fun r => r6 = r) y ∧ wp_X7_bits (fun r => r7 = r) y
theorem cells_D {R W D : Int} {x : Int} {f : Nat → Int64} (hf : rw_ok R W D f) (hs : R ≤ 0 ∨ 0 < D) (h0 : 0 ≤ x) (h : x < R * W) : 0 < D := by
  have hR := hf.2.2.2.2.2.1
  rcases hs with a | a
  · have : R = 0 := by omega
    rw [this, Int.zero_mul] at h
    omega
  · exact a
theorem e0_flF {P : Int32 → Prop} {s : Bd} {f : Nat → Int64} {x : Int32} {R W D : Int} (hf : rw_ok R W D f) (hD : 0 < D) (hB : RB s f) (h0 : 0 ≤ x.toInt) (h1 : x.toInt < R * W) (h : wp_X0_flapsOf P s x) : ∃ r, P r ∧ r.toInt = flF f x.toInt.toNat ∧ 2 ≤ flF f x.toInt.toNat ∧ flF f x.toInt.toNat ≤ 40 := by
  obtain ⟨d, a1, a2, a3, a4, a5, a6, a7, a8, a9, a10, a11⟩ := cell_x (c := x.toInt.toNat) hf hD hB (by omega)
  have q := e0_flapsOf a1 a5 (by omega) h
  have ef : flF f x.toInt.toNat = d_f f d := by
    unfold flF
    rw [a6]
    rfl
  exact ⟨_, q, by omega, by omega, by omega⟩
theorem e7_flF {P : Int32 → Prop} {s : Md} {x : Int32} {R W D : Int} (hf : rw_ok R W D (s.2.2.1 0)) (hD : 0 < D) (h0 : 0 ≤ x.toInt) (h1 : x.toInt < R * W) (h : wp_X7_flaps P s x) : ∃ r, P r ∧ r.toInt = flF (s.2.2.1 0) x.toInt.toNat ∧ 2 ≤ flF (s.2.2.1 0) x.toInt.toNat ∧ flF (s.2.2.1 0) x.toInt.toNat ≤ 40 := by
  obtain ⟨q0, q1, q2, q3, q4, q5⟩ := cl_f (c := x.toInt.toNat) hf hD (by omega)
  unfold wp_X7_flaps at h
  have h := e7_of (i := 0) h0 (by omega) rfl (by decide) h
  have e : (Int64.toInt32 (s.2.2.1 0 (176 + 8 * x.toInt.toNat + 0))).toInt = c_f (s.2.2.1 0) x.toInt.toNat 0 := by
    rw [t32 (by unfold c_f at q0; omega)]
    rfl
  have h := e7_flapsOf (by omega) (by omega) h
  rw [e] at h
  refine ⟨_, h, ?_, q1.1, q1.2⟩
  rw [t32 (by unfold d_f at q1; omega)]
  rfl
theorem e0_hasFlap {P : Int32 → Prop} {s : Bd} {f : Nat → Int64} {x y : Int32} {R W D : Int} (hf : rw_ok R W D f) (hs : R ≤ 0 ∨ 0 < D) (hB : RB s f) (h : wp_X0_hasFlap P s x y) : (P 1 ∧ (0 ≤ x.toInt ∧ x.toInt < R * W) ∧ 0 ≤ y.toInt ∧ y.toInt < flF f x.toInt.toNat ∧ flF f x.toInt.toNat ≤ 40) ∨ (P 0 ∧ ¬ ((0 ≤ x.toInt ∧ x.toInt < R * W) ∧ 0 ≤ y.toInt ∧ y.toInt < flF f x.toInt.toNat)) := by
  have e0 : (0 : Int32).toInt = 0 := rfl
  have hc := RB_cells hf hB
  unfold wp_X0_hasFlap at h
  rcases e0_hasCell hc.2.2.1 h with ⟨h, g1, g2⟩ | ⟨h, g⟩
  · have h := h.2 (by decide)
    by_cases c : y < 0
    · have := q_lt c
      exact Or.inr ⟨h.1 c, by omega⟩
    · have := q_nlt c
      obtain ⟨r, h, a, _, b⟩ := e0_flF hf (cells_D hf hs g1 g2) hB g1 g2 (h.2 c)
      by_cases c2 : r ≤ y
      · have := q_le c2
        exact Or.inr ⟨h.1 c2, by omega⟩
      · have := q_nle c2
        exact Or.inl ⟨h.2 c2, by omega⟩
  · exact Or.inr ⟨h.1 rfl, by omega⟩
theorem e7_isFlap {P : Int32 → Prop} {s : Md} {x y : Int32} {R W D : Int} (hf : rw_ok R W D (s.2.2.1 0)) (hs : R ≤ 0 ∨ 0 < D) (h : wp_X7_isFlap P s x y) : (P 1 ∧ (0 ≤ x.toInt ∧ x.toInt < R * W) ∧ 1 ≤ y.toInt ∧ y.toInt < flF (s.2.2.1 0) x.toInt.toNat ∧ flF (s.2.2.1 0) x.toInt.toNat ≤ 40) ∨ (P 0 ∧ ¬ ((0 ≤ x.toInt ∧ x.toInt < R * W) ∧ 1 ≤ y.toInt ∧ y.toInt < flF (s.2.2.1 0) x.toInt.toNat)) := by
  unfold wp_X7_isFlap at h
  rcases e7_isCell hf h with ⟨h, g1, g2⟩ | ⟨h, g⟩
  · obtain ⟨r, h, a, b1, b⟩ := e7_flF hf (cells_D hf hs g1 g2) g1 g2 (h.2 (by decide))
    rcases e7_in0 (i := 1) rfl a (by omega) h with ⟨h, j1, j2⟩ | ⟨h, j⟩
    · exact Or.inl ⟨h.2 (by decide), by omega⟩
    · exact Or.inr ⟨h.1 rfl, by omega⟩
  · exact Or.inr ⟨h.1 rfl, by omega⟩
theorem cn_e {P6 P7 : Int32 → Prop} {y : Int64} (h6 : wp_J13_bitCount_95d88 P6 y) (h7 : wp_X7_bits P7 y) : ∃ r6 r7, P6 r6 ∧ P7 r7 ∧ CN r6 r7 := by
  obtain ⟨r7, p7, mk, _⟩ := dt_X7_bits y P7 h7
  unfold wp_J13_bitCount_95d88 at h6
  exact ⟨_, r7, h6, p7, Or.inr ⟨y, by unfold wp_J13_bitCount_95d88; rfl, mk _ rfl⟩⟩
theorem sm_wear {P6 : Int32 → Bd → Pa → Prop} {P7 : Int32 → Md → Prop} {s6 : Pa} {s2 : Bd} {m : Md} {x1 x2 : Int32} {N R W D : Int} (hp : pa s6) (hP : RP s6 m) (hB : RB s2 (m.2.2.1 0)) (hM : mb N R W D m) (hs : R ≤ 0 ∨ 0 < D) (h6 : wp_X6_wear P6 s2 s6 x1 x2) (h7 : wp_X7_wear P7 m x1 x2) : ∃ r6 r7 b p m', P6 r6 b p ∧ P7 r7 m' ∧ AR m m' b p ∧ CN r6 r7 := by
  have e0 : (0 : Int32).toInt = 0 := rfl
  have hf := hM.2.2.2.2.1
  have k40 : R * W ≤ 40 := hf.2.2.2.2.2.1.2.2.2.2.2.1
  have hc := RB_cells hf hB
  have fl : ∀ r, P6 r s2 s6 → P7 r m → ∃ r6 r7 b p m', P6 r6 b p ∧ P7 r7 m' ∧ AR m m' b p ∧ CN r6 r7 := fun r a b => ⟨r, r, s2, s6, m, a, b, ⟨hB, hP, rfl, rfl⟩, Or.inl rfl⟩
  unfold wp_X6_wear at h6
  unfold wp_X7_wear at h7
  rcases e7_isFlap hf hs h7 with ⟨h7, ⟨g1, g2⟩, g3, g4, g5⟩ | ⟨h7, g⟩
  · rcases e0_hasFlap hf hs hB h6 with ⟨h6, _⟩ | ⟨_, g⟩
    · have n0 : ¬ x2 = 0 := fun c => by have := q_eq c; omega
      have h6 := (h6.2 (by decide)).1 n0
      have h7 := e7_wornOf g1 (by omega) (h7.1 (by decide))
      have at_ := (RB_at (c := x1.toInt.toNat) hf hB (by omega)).2
      rw [← at_] at h7
      rcases e7_isIn (by omega) h7 with ⟨h7, b7⟩ | ⟨h7, b7⟩
      · rcases e0_isWorn (by omega) h6 with ⟨h6, b6⟩ | ⟨h6, b6⟩
        · exact fl _ (h6.2 (by decide)) (h7.2 (by decide))
        · rw [b7] at b6
          cases b6
      · rcases e0_isWorn (by omega) h6 with ⟨h6, b6⟩ | ⟨h6, b6⟩
        · rw [b7] at b6
          cases b6
        · obtain ⟨p, u, h6, h7, q1, q2, q3, q4, q5, q6⟩ := sm_push hp hP hB hM hs (h6.1 rfl) (h7.1 rfl)
          have u0 : u.2.2.1 0 = m.2.2.1 0 := q6 0 (by decide)
          have h7 := dt_conj (dt_X7_wears u x1 x2) h7 (wq_X7_wears (post := fun v => mb N R W D v) q2 ⟨g1, by omega⟩ (cells_D hf hs g1 g2) (fun v a _ => a))
          obtain ⟨b', v', h6, ⟨h7, mv⟩, f1, hB'⟩ := sm_wears q2.2.2.2.2.1 (by rw [u0]; exact hB) g1 g2 k40 (by omega) h6 h7
          have h7 := e7_wornOf g1 (by omega) h7
          unfold wp_X0_wornCount at h6
          have h6 := h6.2
          rw [tn_i, (RB_at (c := x1.toInt.toNat) mv.2.2.2.2.1 hB' (by omega)).2] at h6
          obtain ⟨r6, r7, h6, h7, cn⟩ := cn_e h6 h7
          exact ⟨r6, r7, _, _, v', h6, h7, ⟨hB', RP_k q1 (by rw [f1.1]) (f1.2.2.1 1 (by decide)), by rw [f1.2.2.2, q5], (f1.2.2.1 2 (by decide)).trans (q6 2 (by decide))⟩, cn⟩
    · omega
  · have h7 := h7.2 rfl
    rcases e0_hasFlap hf hs hB h6 with ⟨h6, g⟩ | ⟨h6, _⟩
    · have n0 : x2 = 0 := Int32.toInt_inj.mp (by omega)
      exact fl _ ((h6.2 (by decide)).2 n0) h7
    · exact fl _ (h6.1 rfl) h7
/-- mend: HOME is a flap that is never worn; the answers there are told apart -/
theorem sm_mend {P6 : Int32 → Bd → Pa → Prop} {P7 : Int32 → Md → Prop} {s6 : Pa} {s2 : Bd} {m : Md} {x1 x2 : Int32} {N R W D : Int} (hp : pa s6) (hP : RP s6 m) (hB : RB s2 (m.2.2.1 0)) (hM : mb N R W D m) (hs : R ≤ 0 ∨ 0 < D) (h6 : wp_X6_mend P6 s2 s6 x1 x2) (h7 : wp_X7_mend P7 m x1 x2) : ∃ r6 r7 b p m', P6 r6 b p ∧ P7 r7 m' ∧ AR m m' b p := by
  have e0 : (0 : Int32).toInt = 0 := rfl
  have hf := hM.2.2.2.2.1
  have k40 : R * W ≤ 40 := hf.2.2.2.2.2.1.2.2.2.2.2.1
  have hc := RB_cells hf hB
  have fl : ∀ r q, P6 r s2 s6 → P7 q m → ∃ r6 r7 b p m', P6 r6 b p ∧ P7 r7 m' ∧ AR m m' b p := fun r q a b => ⟨r, q, s2, s6, m, a, b, ⟨hB, hP, rfl, rfl⟩⟩
  unfold wp_X6_mend at h6
  unfold wp_X7_mend at h7
  rcases e7_isFlap hf hs h7 with ⟨h7, ⟨g1, g2⟩, g3, g4, g5⟩ | ⟨h7, g⟩
  · rcases e0_hasFlap hf hs hB h6 with ⟨h6, _⟩ | ⟨_, g⟩
    · have h6 := h6.1 (by decide)
      have h7 := e7_wornOf g1 (by omega) (h7.1 (by decide))
      have at_ := RB_at (c := x1.toInt.toNat) hf hB (by omega)
      rw [← at_.2] at h7
      rcases e7_isIn (by omega) h7 with ⟨h7, b7⟩ | ⟨h7, b7⟩
      · rcases e0_isWorn (by omega) h6 with ⟨h6, b6⟩ | ⟨h6, b6⟩
        · obtain ⟨p, u, h6, h7, q1, q2, q3, q4, q5, q6⟩ := sm_push hp hP hB hM hs (h6.1 (by decide)) (h7.1 (by decide))
          have u0 : u.2.2.1 0 = m.2.2.1 0 := q6 0 (by decide)
          have h7 := e7_wornOf g1 (by omega) h7
          obtain ⟨w, h7, f1, gw⟩ := e7_sets (i := 7) g1 (by omega) rfl (by decide) h7
          have h7 := e7_wornOf g1 (by omega) h7
          obtain ⟨r7, h7, _⟩ := xf_dt (dt_X7_bits _) _ h7
          unfold wp_X0_mendFlap wp_X0_wornCount wp_J13_bitCount_95d88 at h6
          have h6 := h6.2.2.2
          rw [tn_i] at h6
          refine ⟨_, r7, _, _, w, h6, h7, ?_, RP_k q1 (by rw [f1.1]) (f1.2.2.1 1 (by decide)), by rw [f1.2.2.2, q5], (f1.2.2.1 2 (by decide)).trans (q6 2 (by decide))⟩
          rw [gw, u0]
          refine RB_c (c := x1.toInt.toNat) hB rfl ⟨rfl, rfl, rfl⟩ (fun j hj i hi => rfl) (fun i hi => uL_n hi) (fun i hi => uL_n (by omega)) ⟨fun j hj => ?_, ?_⟩
          · show s2.2.1 (3 + j) x1.toInt.toNat = _
            rw [uL_n (by omega)]
            exact at_.1 j hj
          · refine ⟨?_, ?_⟩
            · show vp_updL s2.2.2.1 x1.toInt.toNat _ x1.toInt.toNat = _
              rw [uL_e, uL_e, at_.2]
            · rw [uL_e]
              have q := RB_w (c := x1.toInt.toNat) hf hB (by omega)
              unfold bs_at at q ⊢
              rw [Int64.toBitVec_and, BitVec.toNat_and, Nat.testBit_and, q]
              rfl
        · rw [b7] at b6
          cases b6
      · rcases e0_isWorn (by omega) h6 with ⟨h6, b6⟩ | ⟨h6, b6⟩
        · rw [b7] at b6
          cases b6
        · exact fl _ _ (h6.2 rfl) (h7.2 rfl)
    · omega
  · have h7 := h7.2 rfl
    rcases e0_hasFlap hf hs hB h6 with ⟨h6, g⟩ | ⟨h6, _⟩
    · have n0 : x2.toInt = 0 := by omega
      have h6 := h6.1 (by decide)
      rcases e0_isWorn (by omega) h6 with ⟨h6, b6⟩ | ⟨h6, b6⟩
      · exfalso
        have q := RB_w (c := x1.toInt.toNat) hf hB (by omega)
        rw [(RB_at (c := x1.toInt.toNat) hf hB (by omega)).2, n0] at b6
        have b6 : bs_at (m.2.2.1 0 (176 + 8 * x1.toInt.toNat + 7)) 0 = true := b6
        rw [q] at b6
        cases b6
      · exact fl _ _ (h6.2 rfl) h7
    · exact fl _ _ (h6.2 rfl) h7
/-! exchange -/
theorem e7_exch_L {p7 : Int32 → Md → Prop} {e7 : Md → Int32 → Int32 → Int32 → Int32 → Int64 → Int32 → Prop} {z1 z2 z3 z4 : Int32} {w5 : Int64} : ∀ (n : Nat) (s : Md) (z : Int32), 496 ≤ z.toInt → wp_X7_exchange_L109 p7 e7 n s z1 z2 z3 z4 w5 z → ∃ u z', e7 u z1 z2 z3 z4 w5 z' ∧ FN s u ∧ (∀ i : Nat, i < 496 → u.2.2.1 0 i = s.2.2.1 0 i) ∧ (∀ i : Nat, (i : Int) < z.toInt → u.2.2.1 0 i = s.2.2.1 0 i) ∧ (∀ i : Nat, z.toInt ≤ (i : Int) → i < 6896 → u.2.2.1 0 i = 0) := by
  have e1 : (1 : Int32).toInt = 1 := rfl
  have eK : (6896 : Int32).toInt = 6896 := rfl
  intro n
  induction n with
  | zero =>
    intro s z _ h
    exact (show False from h).elim
  | succ n ih =>
    intro s z h0 h
    unfold wp_X7_exchange_L109 at h
    by_cases c : 6896 ≤ z
    · have := q_le c
      exact ⟨s, z, h.1 c, FN_rf s, fun _ _ => rfl, fun _ _ => rfl, fun i g1 g2 => by omega⟩
    · have c1 := q_nle c
      have a := nw (tq_addr e1 z) (by omega)
      have h := (h.2 c).2
      rw [tn_i] at h
      obtain ⟨u, z', b1, b2, b3, b4, b5⟩ := ih (s.1, s.2.1, (va_up s.2.2.1 0 (vp_updL (s.2.2.1 0) z.toInt.toNat 0)), s.2.2.2) (z + 1) (by omega) h
      refine ⟨u, z', b1, FN_tr (FN_up s _) b2, fun i hi => ?_, fun i hi => ?_, fun i g1 g2 => ?_⟩
      · rw [b3 i hi]
        show vp_updL (s.2.2.1 0) z.toInt.toNat 0 i = _
        exact uL_n (by omega)
      · rw [b4 i (by omega)]
        show vp_updL (s.2.2.1 0) z.toInt.toNat 0 i = _
        exact uL_n (by omega)
      · by_cases g : (i : Int) = z.toInt
        · have ei : i = z.toInt.toNat := by omega
          rw [b4 i (by omega), ei]
          show vp_updL (s.2.2.1 0) z.toInt.toNat 0 z.toInt.toNat = _
          exact uL_e
        · exact b5 i (by omega) g2
theorem e0_flapsOn {P : Int32 → Prop} {s : Bd} {x : Int32} (h : wp_X0_flapsOn P s x) : ((0 ≤ x.toInt ∧ x.toInt < (s.1 3).toInt) ∧ P (s.2.1 1 x.toInt.toNat)) ∨ (¬ (0 ≤ x.toInt ∧ x.toInt < (s.1 3).toInt) ∧ P 0) := by
  have e0 : (0 : Int32).toInt = 0 := rfl
  unfold wp_X0_flapsOn at h
  by_cases c : x < 0
  · have := q_lt c
    exact Or.inr ⟨by omega, h.1 c⟩
  · have := q_nlt c
    have h := h.2 c
    by_cases c2 : s.1 3 ≤ x
    · have := q_le c2
      exact Or.inr ⟨by omega, h.1 c2⟩
    · have := q_nle c2
      have h := (h.2 c2).2
      rw [tn_i] at h
      exact Or.inl ⟨by omega, h⟩
theorem RB_fl {s : Bd} {f : Nat → Int64} {R W D : Int} {d : Nat} (hf : rw_ok R W D f) (hB : RB s f) (hd : (d : Int) < D) : (s.2.1 1 d).toInt = d_f f d ∧ 2 ≤ d_f f d ∧ d_f f d ≤ 40 := by
  have q := hB.2.1.2 d (by rw [hf.2.2.1]; exact hd)
  have k := hf.2.2.2.2.2.2.1 d hd
  refine ⟨?_, k⟩
  rw [q.2.2.1, t32 (by unfold d_f at k; omega)]
  rfl
theorem e0_isMovable {P : Int32 → Prop} {s : Bd} {f : Nat → Int64} {x y : Int32} {R W D : Int} (hf : rw_ok R W D f) (hB : RB s f) (h : wp_X0_isMovable P s x y) : (P 1 ∧ (0 ≤ x.toInt ∧ x.toInt < D) ∧ 1 ≤ y.toInt ∧ y.toInt < d_f f x.toInt.toNat ∧ d_f f x.toInt.toNat ≤ 40) ∨ (P 0 ∧ ¬ ((0 ≤ x.toInt ∧ x.toInt < D) ∧ 1 ≤ y.toInt ∧ y.toInt < d_f f x.toInt.toNat)) := by
  have e0 : (0 : Int32).toInt = 0 := rfl
  have e3 := (RB_cells hf hB).2.2.2.2
  unfold wp_X0_isMovable at h
  by_cases c : y ≤ 0
  · have := q_le c
    exact Or.inr ⟨h.1 c, by omega⟩
  · have := q_nle c
    rcases e0_flapsOn (h.2 c) with ⟨g, h⟩ | ⟨g, h⟩
    · have k := RB_fl (d := x.toInt.toNat) hf hB (by omega)
      by_cases c2 : s.2.1 1 x.toInt.toNat ≤ y
      · have := q_le c2
        exact Or.inr ⟨h.1 c2, by omega⟩
      · have := q_nle c2
        exact Or.inl ⟨h.2 c2, by omega⟩
    · exact Or.inr ⟨h.1 (by rw [Int32.le_iff_toInt_le]; omega), by omega⟩
theorem e7_mov {P : Int32 → Prop} {s : Md} {x y : Int32} {R W D : Int} (hf : rw_ok R W D (s.2.2.1 0)) (hx : 0 ≤ x.toInt ∧ x.toInt < D) (h : wp_X7_flapsOf (fun r => wp_X7_in P (Int32.toInt64 y) (1 : Int64) (Int32.toInt64 (r - 1))) s x) : (P 1 ∧ 1 ≤ y.toInt ∧ y.toInt < d_f (s.2.2.1 0) x.toInt.toNat) ∨ (P 0 ∧ ¬ (1 ≤ y.toInt ∧ y.toInt < d_f (s.2.2.1 0) x.toInt.toNat)) := by
  have hR := hf.2.2.2.2.2.1
  have k := hf.2.2.2.2.2.2.1 x.toInt.toNat (by omega)
  have h := e7_flapsOf (by omega) (by omega) h
  have e : (Int64.toInt32 (s.2.2.1 0 (8 + 42 * x.toInt.toNat + 1))).toInt = d_f (s.2.2.1 0) x.toInt.toNat := by
    rw [t32 (by unfold d_f at k; omega)]
    rfl
  rcases e7_in0 (i := 1) rfl e (by omega) h with ⟨h, g1, g2⟩ | ⟨h, g⟩
  · exact Or.inl ⟨h, g1, g2⟩
  · exact Or.inr ⟨h, by omega⟩
theorem ix40 {x y : Int32} (h0 : 0 ≤ x.toInt) (h1 : x.toInt < 4) (h2 : 0 ≤ y.toInt) (h3 : y.toInt < 40) : Int32.toNatClampNeg ((x * 40) + y) = 40 * x.toInt.toNat + y.toInt.toNat := by
  have e40 : (40 : Int32).toInt = 40 := rfl
  have a0 := tq_mul x 40
  rw [e40] at a0
  have a1 := nw a0 (by omega)
  have a2 := nw (tq_add (x * 40) y) (by omega)
  rw [tn_i]
  omega
theorem RB_swap {s u : Bd} {f g : Nat → Int64} {R W D : Int} {d a b : Nat} (hf : rw_ok R W D f) (hB : RB s f) (hd : (d : Int) < D) (ha : (a : Int) < d_f f d) (hb : (b : Int) < d_f f d) (ne : ¬ a = b) (u1 : u.1 = s.1) (u2 : u.2.1 = va_up s.2.1 2 (upd (upd (s.2.1 2) (40 * d + a) (s.2.1 2 (40 * d + b))) (40 * d + b) (s.2.1 2 (40 * d + a)))) (u3 : u.2.2.1 = s.2.2.1) (hg : ∀ i : Nat, i < 496 → g i = vp_updL (vp_updL f (8 + 42 * d + 2 + a) (f (8 + 42 * d + 2 + b))) (8 + 42 * d + 2 + b) (f (8 + 42 * d + 2 + a)) i) : RB u g := by
  have hR := hf.2.2.2.2.2.1
  have kd := (hf.2.2.2.2.2.2.1 d hd).2
  have hn : ∀ i : Nat, i < 496 → ¬ i = 8 + 42 * d + 2 + a → ¬ i = 8 + 42 * d + 2 + b → g i = f i := fun i hi h1 h2 => by
    rw [hg i hi, uL_n h2, uL_n h1]
  have sd := (hB.2.1.2 d (by rw [hf.2.2.1]; exact hd)).2.2.2
  have hD : (f 3).toInt = D := hf.2.2.1
  have hRW : (f 0).toInt * (f 1).toInt = R * W := by rw [hf.1, hf.2.1]
  obtain ⟨⟨b0, b1, b2, b3⟩, ⟨b4, b5⟩, b6⟩ := hB
  have g0 := hn 0 (by omega) (by omega) (by omega)
  have g1 := hn 1 (by omega) (by omega) (by omega)
  have g2 := hn 2 (by omega) (by omega) (by omega)
  have g3 := hn 3 (by omega) (by omega) (by omega)
  have uj : ∀ j, ¬ j = 2 → u.2.1 j = s.2.1 j := fun j hj => by rw [u2, va_n hj]
  have uu : u.2.1 2 = upd (upd (s.2.1 2) (40 * d + a) (s.2.1 2 (40 * d + b))) (40 * d + b) (s.2.1 2 (40 * d + a)) := by rw [u2]; exact va_up_self _ _ _
  refine ⟨by rw [u1, g0, g1, g2, g3]; exact ⟨b0, b1, b2, b3⟩, ⟨by rw [g3, g0, g1]; exact b4, fun e he => ?_⟩, fun c hc => ?_⟩
  · rw [g3] at he
    obtain ⟨c1, c2, c3, c4⟩ := b5 e he
    have c10 := c1.1
    have ed : d_f g e = d_f f e := by
      unfold d_f
      rw [hn _ (by omega) (by omega) (by omega)]
    rw [ed, uj 0 (by decide), uj 1 (by decide), hn (8 + 42 * e) (by omega) (by omega) (by omega), hn (8 + 42 * e + 1) (by omega) (by omega) (by omega)]
    have cg : DG g e := by
      by_cases q : e = d
      · subst q
        refine ⟨by rw [ed]; exact c1.1, by rw [hn _ (by omega) (by omega) (by omega)]; exact c1.2.1, by rw [hn _ (by omega) (by omega) (by omega)]; exact c1.2.2.1, fun k hk => ?_⟩
        rw [ed] at hk
        rw [hg _ (by omega)]
        by_cases qb : k = b
        · subst qb
          rw [uL_e]
          exact c1.2.2.2 a ha
        · by_cases qa : k = a
          · subst qa
            rw [uL_n (by omega), uL_e]
            exact c1.2.2.2 b hb
          · rw [uL_n (by omega), uL_n (by omega)]
            exact c1.2.2.2 k hk
      · exact DG_k c1 (fun i h1 h2 => hn i (by omega) (by omega) (by omega))
    refine ⟨cg, c2, c3, fun k hk => ?_⟩
    rw [uu]
    by_cases q : e = d
    · subst q
      by_cases qb : k = b
      · subst qb
        rw [up_e, hg _ (by omega), uL_e]
        exact sd a ha
      · by_cases qa : k = a
        · subst qa
          rw [up_n (by omega), up_e, hg _ (by omega), uL_n (by omega), uL_e]
          exact sd b hb
        · rw [up_n (by omega), up_n (by omega), hn _ (by omega) (by omega) (by omega)]
          exact c4 k hk
    · rw [up_n (by omega), up_n (by omega), hn _ (by omega) (by omega) (by omega)]
      exact c4 k hk
  · rw [g0, g1] at hc
    obtain ⟨c1, c2, c3⟩ := b6 c hc
    have hc9 : c < 40 := by omega
    rw [u3, hn (176 + 8 * c + 7) (by omega) (by omega) (by omega)]
    refine ⟨fun j hj => ?_, c2, c3⟩
    rw [uj _ (by omega), hn _ (by omega) (by omega) (by omega)]
    exact c1 j hj
theorem sm_exchange {P6 : Int32 → Bd → Pa → Prop} {P7 : Int32 → Md → Prop} {s6 : Pa} {s2 : Bd} {m : Md} {x1 x2 x3 : Int32} {N R W D : Int} (hp : pa s6) (hP : RP s6 m) (hB : RB s2 (m.2.2.1 0)) (hM : mb N R W D m) (hs : R ≤ 0 ∨ 0 < D) (h6 : wp_X6_exchange P6 s2 s6 x1 x2 x3) (h7 : wp_X7_exchange P7 m x1 x2 x3) : ∃ r b p m', P6 r b p ∧ P7 r m' ∧ AR m m' b p := by
  have hf := hM.2.2.2.2.1
  have hR := hf.2.2.2.2.2.1
  have fl : ∀ r, P6 r s2 s6 → P7 r m → ∃ r b p m', P6 r b p ∧ P7 r m' ∧ AR m m' b p := fun r a b => ⟨r, s2, s6, m, a, b, hB, hP, rfl, rfl⟩
  unfold wp_X6_exchange at h6
  unfold wp_X7_exchange at h7
  rcases e0_isMovable hf hB h6 with ⟨h6, g0, g1, g2, g3⟩ | ⟨h6, g⟩
  · have h6 := h6.2 (by decide)
    rcases e7_isDrum hf h7 with ⟨h7, _⟩ | ⟨_, g⟩
    · rcases e7_mov hf g0 (h7.2 (by decide)) with ⟨h7, _⟩ | ⟨_, g⟩
      · have h7 := e7_mov hf g0 (h7.2 (by decide))
        rcases e0_isMovable hf hB h6 with ⟨h6, _, g4, g5, _⟩ | ⟨h6, g⟩
        · rcases h7 with ⟨h7, _⟩ | ⟨_, g⟩
          · have h6 := h6.2 (by decide)
            have h7 := h7.2 (by decide)
            by_cases c : x2 = x3
            · exact fl _ (h6.2 c) (h7.2 c)
            · obtain ⟨p, u, h6, h7, q1, q2, q3, q4, q5, q6⟩ := sm_push hp hP hB hM hs (h6.1 c) (h7.1 c)
              have u0 : u.2.2.1 0 = m.2.2.1 0 := q6 0 (by decide)
              obtain ⟨n, h7⟩ := h7.2.2.2.2
              obtain ⟨w, z', h7, f1, f2, _⟩ := e7_exch_L n _ 496 (by decide) h7
              unfold wp_X0_swapSigns at h6
              rcases e0_isMovable hf hB h6 with ⟨h6, _⟩ | ⟨_, g⟩
              · rcases e0_isMovable hf hB (h6.2 (by decide)) with ⟨h6, _⟩ | ⟨_, g⟩
                · obtain ⟨bb, h6, e1, e2, e3⟩ := e0_emptyLog (h6.1 (by decide)).2.2.2.2
                  refine ⟨_, _, _, w, h6, h7, ?_, RP_k q1 (by rw [f1.1]) (f1.2.2.1 1 (by decide)), by rw [f1.2.2.2]; exact congrFun q5 0, (f1.2.2.1 2 (by decide)).trans (q6 2 (by decide))⟩
                  rw [ixs (by omega) (by omega) (by omega) (by omega), ixs (by omega) (by omega) (by omega) (by omega)] at f2
                  rw [ix40 (by omega) (by omega) (by omega) (by omega), ix40 (by omega) (by omega) (by omega) (by omega)] at e2
                  have ne : ¬ x2.toInt = x3.toInt := fun g => c (Int32.toInt_inj.mp g)
                  refine RB_swap (d := x1.toInt.toNat) (a := x2.toInt.toNat) (b := x3.toInt.toNat) hf hB (by omega) (by omega) (by omega) (by omega) e1 ?_ e3 ?_
                  · exact e2
                  · intro i hi
                    rw [f2 i hi]
                    show vp_updL (vp_updL (u.2.2.1 0) _ _) _ _ i = _
                    rw [u0]
                · omega
              · omega
          · omega
        · rcases h7 with ⟨_, g⟩ | ⟨h7, _⟩
          · omega
          · exact fl _ (h6.1 rfl) (h7.1 rfl)
      · omega
    · omega
  · rcases e7_isDrum hf h7 with ⟨h7, g0⟩ | ⟨h7, _⟩
    · rcases e7_mov hf g0 (h7.2 (by decide)) with ⟨_, g1⟩ | ⟨h7, _⟩
      · omega
      · exact fl _ (h6.1 rfl) (h7.1 rfl)
    · exact fl _ (h6.1 rfl) (h7.1 rfl)

/-! A row wants signs: wantFlap, wantSigns, with the log; both go cell by cell. -/
theorem e0_wantFlap {P : Int32 → Bd → Prop} {s : Bd} {x y : Int32} (h : wp_X0_wantFlap P s x y) : (y = -1 ∧ P 1 s) ∨ (¬ y = -1 ∧ ∃ u, P 0 u ∧ u.1 = s.1 ∧ u.2.1 = va_up s.2.1 6 (upd (s.2.1 6) (Int32.toNatClampNeg x) y) ∧ u.2.2.1 = s.2.2.1) := by
  unfold wp_X0_wantFlap at h
  by_cases c : y = -1
  · exact Or.inl ⟨c, h.2 c⟩
  · refine Or.inr ⟨c, ?_⟩
    have h := (h.1 c).2.2.2
    obtain ⟨r5, h, _⟩ := xf_dt (dt_X0_entryStart _ _) _ h
    obtain ⟨r7, h, _⟩ := xf_dt (dt_X0_flapsOf _ _) _ h
    by_cases c1 : y = s.2.1 5 (Int32.toNatClampNeg x)
    · exact ⟨_, h.1 c1, rfl, rfl, rfl⟩
    · have h := h.2 c1
      by_cases c2 : ((r5 + ((s.2.1 5) (Int32.toNatClampNeg x)) * r7) + y) < 0
      · exact ⟨_, h.1 c2, rfl, rfl, rfl⟩
      · have h := h.2 c2
        by_cases c3 : (Int32.ofNat s.2.2.2.1) ≤ ((r5 + ((s.2.1 5) (Int32.toNatClampNeg x)) * r7) + y)
        · exact ⟨_, h.1 c3, rfl, rfl, rfl⟩
        · exact ⟨_, (h.2 c3).2.2, rfl, rfl, rfl⟩
theorem e7_wantsFlap {P : Md → Prop} {s : Md} {x y lg : Int32} {R W D : Int} (hf : rw_ok R W D (s.2.2.1 0)) (hD : 0 < D) (h0 : 0 ≤ x.toInt) (h1 : x.toInt < R * W) (hy : 0 ≤ y.toInt ∧ y.toInt < 40) (h : wp_X7_wantsFlap P s x y lg) : ∃ u, P u ∧ FN s u ∧ (∀ i : Nat, i < 496 → u.2.2.1 0 i = vp_updL (s.2.2.1 0) (176 + 8 * x.toInt.toNat + 3) (Int32.toInt64 y) i) := by
  have hR := hf.2.2.2.2.2.1
  obtain ⟨q0, q1, q2, q3, q4, q5⟩ := cl_f (c := x.toInt.toNat) hf hD (by omega)
  unfold wp_X7_wantsFlap at h
  obtain ⟨u, h, f1, g1⟩ := e7_sets (i := 3) h0 (by omega) rfl (by decide) h
  have fin : P u → ∃ u, P u ∧ FN s u ∧ (∀ i : Nat, i < 496 → u.2.2.1 0 i = vp_updL (s.2.2.1 0) (176 + 8 * x.toInt.toNat + 3) (Int32.toInt64 y) i) := fun p => ⟨u, p, f1, fun i _ => by rw [g1]⟩
  by_cases c : lg = 0
  · exact fin (h.1 c)
  · have h := e7_of (i := 2) h0 (by omega) rfl (by decide) (h.2 c)
    by_cases c2 : y = Int64.toInt32 (u.2.2.1 0 (176 + 8 * x.toInt.toNat + 2))
    · exact fin (h.1 c2)
    · have h := e7_of (i := 0) h0 (by omega) rfl (by decide) (h.2 c2)
      have h := e7_of (i := 2) h0 (by omega) rfl (by decide) h
      have h := h.2.2
      rw [g1, uL_n (by omega), uL_n (by omega)] at h
      refine ⟨_, h, FN_tr f1 (FN_up u _), fun i hi => ?_⟩
      have e496 : (496 : Int32).toInt = 496 := rfl
      have e40 : (40 : Int32).toInt = 40 := rfl
      have a0 : (Int64.toInt32 (s.2.2.1 0 (176 + 8 * x.toInt.toNat + 0))).toInt = c_f (s.2.2.1 0) x.toInt.toNat 0 := by
        rw [t32 (by unfold c_f at q0; omega)]
        rfl
      have a2 : (Int64.toInt32 (s.2.2.1 0 (176 + 8 * x.toInt.toNat + 2))).toInt = c_f (s.2.2.1 0) x.toInt.toNat 2 := by
        have k1 := q1.2
        have k3 := q3
        have z : (s.2.2.1 0 (176 + 8 * x.toInt.toNat + 2)).toInt = c_f (s.2.2.1 0) x.toInt.toNat 2 := rfl
        rw [t32 (by omega)]
        exact z
      generalize Int64.toInt32 (s.2.2.1 0 (176 + 8 * x.toInt.toNat + 0)) = A at *
      generalize Int64.toInt32 (s.2.2.1 0 (176 + 8 * x.toInt.toNat + 2)) = B at *
      have m1 := nw (tq_mulc e40 A) (by omega)
      have m2 := nw (tq_add (40 * A) B) (by omega)
      have m3 := nw (tq_mulc e40 (40 * A + B)) (by omega)
      have m4 := nw (tq_addc e496 (40 * (40 * A + B))) (by omega)
      have m5 := nw (tq_add (496 + 40 * (40 * A + B)) y) (by omega)
      show vp_updL (vp_updL (s.2.2.1 0) _ _) _ _ i = _
      rw [uL_n (by rw [tn_i]; omega)]
theorem sm_wantFlapX {P6 : Int32 → Bd → Prop} {P7 : Md → Prop} {b : Bd} {v : Md} {x y lg : Int32} {N R W D : Int} (hM : mb N R W D v) (hD : 0 < D) (hB : RB b (v.2.2.1 0)) (h0 : 0 ≤ x.toInt) (h1 : x.toInt < R * W) (hy : ¬ y = -1 ∧ 0 ≤ y.toInt ∧ y.toInt < flF (v.2.2.1 0) x.toInt.toNat) (h6 : wp_X0_wantFlap P6 b x y) (h7 : wp_X7_wantsFlap P7 v x y lg) : ∃ b' v', P6 0 b' ∧ P7 v' ∧ RB b' (v'.2.2.1 0) ∧ mb N R W D v' ∧ FN v v' ∧ (∀ i : Nat, i < 496 → ¬ i = 176 + 8 * x.toInt.toNat + 3 → v'.2.2.1 0 i = v.2.2.1 0 i) := by
  have hf := hM.2.2.2.2.1
  have hR := hf.2.2.2.2.2.1
  obtain ⟨q0, q1, q2, q3, q4, q5⟩ := cl_f (c := x.toInt.toNat) hf hD (by omega)
  have hy2 : y.toInt < d_f (v.2.2.1 0) (c_f (v.2.2.1 0) x.toInt.toNat 0).toNat := hy.2.2
  have h7 := dt_conj (dt_X7_wantsFlap v x y lg) h7 (wq_X7_wantsFlap (post := fun u => mb N R W D u) hM ⟨h0, by omega⟩ hD ⟨hy.2.1, by omega, hy2⟩ (fun u a _ => a))
  obtain ⟨v', ⟨h7, m7⟩, f1, g1⟩ := e7_wantsFlap hf hD h0 h1 (by omega) h7
  rcases e0_wantFlap h6 with ⟨c, _⟩ | ⟨_, b', h6, e1, e2, e3⟩
  · exact (hy.1 c).elim
  · rw [tn_i] at e2
    refine ⟨b', v', h6, h7, ?_, m7, f1, fun i hi ne => (g1 i hi).trans (uL_n ne)⟩
    have hfv := m7.2.2.2.2.1
    have at_ := RB_at (c := x.toInt.toNat) hf hB (by omega)
    have B2 : RB b' (vp_updL (v.2.2.1 0) (176 + 8 * x.toInt.toNat + 3) (Int32.toInt64 y)) := by
      refine RB_c (c := x.toInt.toNat) hB e1 ?_ (fun j hj i hi => ?_) (fun i hi => by rw [e3]) (fun i hi => uL_n (by omega)) ⟨fun j hj => ?_, ?_⟩
      · rw [e2]
        exact ⟨rfl, rfl, rfl⟩
      · rw [e2]
        by_cases q : j = 3
        · subst q
          exact up_n hi
        · rw [va_n (by omega)]
      · rw [e2]
        by_cases q : j = 3
        · subst q
          rw [uL_e, t32_64]
          exact up_e
        · rw [va_n (by omega), uL_n (by omega)]
          exact at_.1 j hj
      · rw [e3, uL_n (by omega)]
        exact ⟨at_.2, RB_w (c := x.toInt.toNat) hf hB (by omega)⟩
    exact RB_cgr hfv g1 B2
theorem sm_wantFlap {P6 : Int32 → Bd → Prop} {P7 : Md → Prop} {b : Bd} {v : Md} {x y lg : Int32} {N R W D : Int} (hM : mb N R W D v) (hD : 0 < D) (hB : RB b (v.2.2.1 0)) (h0 : 0 ≤ x.toInt) (h1 : x.toInt < R * W) (hy : ¬ y = -1 ∧ 0 ≤ y.toInt ∧ y.toInt < flF (v.2.2.1 0) x.toInt.toNat) (h6 : wp_X0_wantFlap P6 b x y) (h7 : wp_X7_wantsFlap P7 v x y lg) : ∃ b' v', P6 0 b' ∧ P7 v' ∧ RB b' (v'.2.2.1 0) ∧ mb N R W D v' ∧ FN v v' := by
  obtain ⟨b', v', a1, a2, a3, a4, a5, _⟩ := sm_wantFlapX hM hD hB h0 h1 hy h6 h7
  exact ⟨b', v', a1, a2, a3, a4, a5⟩
theorem RB_x {s : Bd} {f : Nat → Int64} {R W D : Int} {c : Nat} (hf : rw_ok R W D f) (hB : RB s f) (hc : (c : Int) < R * W) : s.2.1 3 c = Int64.toInt32 (f (176 + 8 * c + 0)) ∧ s.2.1 4 c = Int64.toInt32 (f (176 + 8 * c + 1)) ∧ s.2.1 5 c = Int64.toInt32 (f (176 + 8 * c + 2)) ∧ s.2.1 6 c = Int64.toInt32 (f (176 + 8 * c + 3)) ∧ s.2.1 7 c = Int64.toInt32 (f (176 + 8 * c + 4)) ∧ s.2.1 8 c = Int64.toInt32 (f (176 + 8 * c + 5)) ∧ s.2.1 9 c = Int64.toInt32 (f (176 + 8 * c + 6)) ∧ s.2.2.1 c = f (176 + 8 * c + 7) := by
  have q := RB_at hf hB hc
  exact ⟨q.1 0 (by decide), q.1 1 (by decide), q.1 2 (by decide), q.1 3 (by decide), q.1 4 (by decide), q.1 5 (by decide), q.1 6 (by decide), q.2⟩
theorem nrow {R W : Int} {x : Int} (h0 : 0 ≤ x) (h1 : x < R) (hW : 0 ≤ W) : 0 ≤ x * W ∧ x * W + W ≤ R * W := by
  have a : 0 ≤ x * W := Int.mul_nonneg h0 hW
  have b : (x + 1) * W ≤ R * W := Int.mul_le_mul_of_nonneg_right (by omega) hW
  rw [Int.add_mul, Int.one_mul] at b
  exact ⟨a, b⟩
theorem sm_wants_L {t : Tp} {m0 : Md} {N R W D : Int} {x q n0 lg : Int32} {K : Nat} {p6 : Int32 → Bd → Prop} {e6 : Bd → Int32 → Int32 → Int32 → Int32 → Int32 → Prop} {p7 : Int32 → Md → Prop} {e7 : Md → Int32 → Int32 → Int32 → Int32 → Int32 → Int32 → Prop} (hD : 0 < D) (hxx : RX t m0) (hK : x.toInt * W = (K : Int)) (hK2 : (K : Int) + W ≤ R * W) (hq : 0 ≤ q.toInt) (hn : 0 ≤ n0.toInt) (hqn : q.toInt + n0.toInt ≤ (m0.1 5).toInt) (hs : SG m0 q n0) : ∀ (n6 n7 : Nat) (b : Bd) (v : Md) (z5 z : Int32), 0 ≤ z.toInt → z.toInt ≤ W → RB b (v.2.2.1 0) → mb N R W D v → v.2.2.2 2 = m0.2.2.2 2 → wp_X0_wantSigns_L6 t p6 e6 n6 b x q n0 z5 z → wp_X7_wantsSigns_L6 p7 e7 n7 v x q n0 lg z5 z → ∃ b' v' r z6 z7, e6 b' x q n0 r z6 ∧ e7 v' x q n0 lg r z7 ∧ RB b' (v'.2.2.1 0) ∧ mb N R W D v' ∧ FN v v' := by
  have bx := hxx.2.2
  have e1 : (1 : Int32).toInt = 1 := rfl
  have e0 : (0 : Int32).toInt = 0 := rfl
  intro n6
  induction n6 with
  | zero =>
    intro n7 b v z5 z _ _ _ _ _ h
    exact (show False from h).elim
  | succ n6 ih =>
    intro n7 b v z5 z h0 h1 hB hM hv h6 h7
    cases n7 with
    | zero => exact (show False from h7).elim
    | succ n7 =>
      have hf := hM.2.2.2.2.1
      have rn := rw_n hf
      have rc := RB_cells hf hB
      unfold wp_X0_wantSigns_L6 at h6
      unfold wp_X7_wantsSigns_L6 at h7
      have h7 := wide_e h7
      rw [← hB.1.2.1] at h7
      by_cases c : b.1 1 ≤ z
      · have h6 := h6.1 c
        have h7 := h7.1 c
        exact ⟨b, v, z5, z, z, h6, h7, hB, hM, FN_rf v⟩
      · have c1 := q_nle c
        have h6 := h6.2 c
        have h7 := wide_e (h7.2 c)
        rw [← hB.1.2.1] at h7
        have m0' := tq_mul x (b.1 1)
        rw [rc.2.1, hK] at m0'
        have m1 := nw m0' (by omega)
        have m2 := nw (tq_add (x * b.1 1) z) (by omega)
        have a := nw (tq_addr e1 z) (by omega)
        have cm : b.1 1 * x = x * b.1 1 := Int32.mul_comm _ _
        rw [cm] at h7
        have kz : ((z.toInt.toNat : Nat) : Int) = z.toInt := by omega
        have en : (x * b.1 1 + z).toInt.toNat = K + z.toInt.toNat := by omega
        have at_ := RB_x (c := K + z.toInt.toNat) hf hB (by omega)
        obtain ⟨r6, h6, n6'⟩ := flap6 (c := K + z.toInt.toNat) hf hD (RB_d hB) hxx (by omega) (by omega) at_.1 at_.2.2.1 at_.2.2.2.2.2.2.2 h0 (by omega) (by omega) h6
        have put : ∀ {r : Int32}, (¬ r = -1 ∧ 0 ≤ r.toInt ∧ r.toInt < flF (v.2.2.1 0) (x * b.1 1 + z).toInt.toNat) → wp_X0_wantFlap (fun r_4 u_5 => wp_X0_wantSigns_L6 t p6 e6 n6 u_5 x q n0 (z5 + r_4) (z + 1)) b (x * b.1 1 + z) r → wp_X7_wantsFlap (fun u_8 => wp_X7_wantsSigns_L6 p7 e7 n7 u_8 x q n0 lg z5 (z + 1)) v (x * b.1 1 + z) r lg → ∃ b' v' r z6 z7, e6 b' x q n0 r z6 ∧ e7 v' x q n0 lg r z7 ∧ RB b' (v'.2.2.1 0) ∧ mb N R W D v' ∧ FN v v' := by
          intro r hr h6 h7
          obtain ⟨b2, v2, h6, h7, B2, M2, F2⟩ := sm_wantFlap hM hD hB (by omega) (by omega) hr h6 h7
          rw [Int32.add_zero] at h6
          obtain ⟨b', v', r', z6, z7, g1, g2, g3, g4, g5⟩ := ih n7 b2 v2 z5 (z + 1) (by omega) (by omega) B2 M2 (by rw [F2.2.2.2]; exact hv) h6 h7
          exact ⟨b', v', r', z6, z7, g1, g2, g3, g4, FN_tr F2 g5⟩
        obtain ⟨q0, q1, q2, q3, q4, q5⟩ := cl_f (c := K + z.toInt.toNat) hf hD (by omega)
        have fle : flF (v.2.2.1 0) (x * b.1 1 + z).toInt.toNat = d_f (v.2.2.1 0) (c_f (v.2.2.1 0) (K + z.toInt.toNat) 0).toNat := by
          rw [en]
          rfl
        by_cases g : n0 ≤ z
        · have g1 := q_le g
          rcases n6' with ⟨n6', _⟩ | ⟨_, rfl⟩
          · omega
          · exact put ⟨by decide, by rw [e0]; omega, by rw [fle, e0]; omega⟩ h6 (h7.1 g)
        · have g1 := q_nle g
          have h7 := (h7.2 g).2
          rcases n6' with ⟨_, n6'⟩ | ⟨n6', _⟩
          · obtain ⟨r, p, nv⟩ := near7 hf hD (RS_rf _ _) (by omega) (by omega) h7
            rw [en] at nv
            have sg : v.2.2.2 2 (Int32.toNatClampNeg (q + z)) = tb7 m0 (q + nI z.toInt.toNat) := by
              rw [tb_sg hxx hs hq hqn (k := z.toInt.toNat) (by omega), nI_tn h0, hv]
            rw [sg] at nv
            have er : r6 = r := NV_u hf hD (by omega) n6' nv
            subst er
            by_cases y : r6 = -1
            · have p := p.2 y
              rcases e0_wantFlap h6 with ⟨_, h6⟩ | ⟨y2, _⟩
              · obtain ⟨b', v', r', z6, z7, g1, g2, g3, g4, g5⟩ := ih n7 b v (z5 + 1) (z + 1) (by omega) (by omega) hB hM hv h6 p
                exact ⟨b', v', r', z6, z7, g1, g2, g3, g4, g5⟩
              · exact (y2 y).elim
            · rcases NV_b nv with y2 | y2
              · exact (y y2).elim
              · exact put ⟨y, y2.2.1, by rw [fle]; exact y2.2.2⟩ h6 (p.1 y)
          · omega
theorem sm_wantSigns {P6 : Int32 → Bd → Prop} {P7 : Int32 → Md → Prop} {t : Tp} {m0 : Md} {b : Bd} {v : Md} {N R W D : Int} {x q n0 lg : Int32} (hD : 0 < D) (hxx : RX t m0) (hx : 0 ≤ x.toInt ∧ x.toInt < R) (hq : 0 ≤ q.toInt) (hn : 0 ≤ n0.toInt) (hqn : q.toInt + n0.toInt ≤ (m0.1 5).toInt) (hs : SG m0 q n0) (hB : RB b (v.2.2.1 0)) (hM : mb N R W D v) (hv : v.2.2.2 2 = m0.2.2.2 2) (h6 : wp_X0_wantSigns P6 b t x q n0) (h7 : wp_X7_wantsSigns P7 v x q n0 lg) : ∃ r b' v', P6 r b' ∧ P7 r v' ∧ RB b' (v'.2.2.1 0) ∧ mb N R W D v' ∧ FN v v' := by
  have e0 : (0 : Int32).toInt = 0 := rfl
  have hR := hM.2.2.2.2.1.2.2.2.2.2.1
  have k := nrow hx.1 hx.2 (W := W) (by omega)
  unfold wp_X0_wantSigns at h6
  unfold wp_X7_wantsSigns at h7
  obtain ⟨n6, h6⟩ := h6
  obtain ⟨n7, h7⟩ := h7
  obtain ⟨b', v', r, _, _, g1, g2, g3, g4, g5⟩ := sm_wants_L (K := (x.toInt * W).toNat) hD hxx (by omega) (by omega) hq hn hqn hs n6 n7 b v 0 0 (by omega) (by omega) hB hM hv h6 h7
  exact ⟨r, b', v', g1, g2, g3, g4, g5⟩

/-! Rows of signs on the tape; row, scroll. -/
theorem by_t {a : Int32} (h1 : 0 ≤ a.toInt) (h2 : a.toInt ≤ 127) : a &&& 255 = a := by
  have e : (a &&& 255).toBitVec.toNat = a.toBitVec.toNat % 256 := by
    rw [Int32.toBitVec_and, BitVec.toNat_and, show (255 : Int32).toBitVec.toNat = 2 ^ 8 - 1 from by decide]
    exact Nat.and_two_pow_sub_one_eq_mod _ 8
  have t2 : a.toInt = if 2 * a.toBitVec.toNat < 2 ^ 32 then (a.toBitVec.toNat : Int) else (a.toBitVec.toNat : Int) - ((2 ^ 32 : Nat) : Int) := BitVec.toInt_eq_toNat_cond _
  have l : a.toBitVec.toNat < 2 ^ 32 := a.toBitVec.isLt
  refine Int32.toBitVec_inj.mp (BitVec.eq_of_toNat_eq ?_)
  rw [e]
  by_cases c : 2 * a.toBitVec.toNat < 2 ^ 32
  · rw [if_pos c] at t2
    omega
  · rw [if_neg c] at t2
    omega
def SGN (y : Int32) : Prop := 32 ≤ y.toInt ∧ y.toInt ≤ 126 ∧ ¬ y = 39
theorem SGN_b {a : Int32} (h1 : -128 ≤ a.toInt) (h2 : a.toInt ≤ 127) : SGN (a &&& 255) ↔ SGN a := by
  constructor
  · intro h
    rw [by_s h1 h2 (by have := h.2.1; omega)] at h
    exact h
  · intro h
    rw [by_t (by have := h.1; omega) h2]
    exact h
theorem tb_in {t : Tp} {m : Md} {x : Int32} (hx : RX t m) (h0 : 0 ≤ x.toInt) (h1 : x.toInt < (m.1 5).toInt) : SGN (tb7 m x) ↔ SGN (m.2.2.2 2 (Int32.toNatClampNeg x)) := by
  unfold tb7
  rw [if_neg (fun c => by have := q_le c; omega)]
  have r := hx.2.2.2.2 (Int32.toNatClampNeg x)
  exact SGN_b r.1 r.2
theorem SG_to {m : Md} {q n : Int32} {z : Int32} (h0 : 0 ≤ z.toInt) (h1 : z.toInt < n.toInt) (h : SG m q n) : SGN (tb7 m (q + z)) := by
  have k := h z.toInt.toNat (by omega)
  rw [nI_tn h0] at k
  exact k
theorem SG_st {m : Md} {q n : Int32} (h : ∀ z : Int32, 0 ≤ z.toInt → z.toInt < n.toInt → SGN (tb7 m (q + z))) (hn : n.toInt ≤ 1000) : SG m q n := fun k hk => by
  have e := qk (q := 0) (k := k) (by decide) (by decide) (by omega)
  rw [Int32.zero_add] at e
  have e0 : (0 : Int32).toInt = 0 := rfl
  exact h (nI k) (by omega) (by omega)
theorem e6_rowText_L {t : Tp} {s : Bd} {m : Md} {q n0 : Int32} {p6 : Int32 → Prop} {e6 : Int32 → Int32 → Int32 → Prop} (hx : RX t m) (hq : 0 ≤ q.toInt) (hqn : q.toInt + n0.toInt ≤ (m.1 5).toInt) : ∀ (n : Nat) (z : Int32), 0 ≤ z.toInt → (∀ y : Int32, 0 ≤ y.toInt → y.toInt < z.toInt → SGN (tb7 m (q + y))) → wp_X6_isRowText_L15 t s p6 e6 n q n0 z → ((∃ z', e6 q n0 z') ∧ SG m q n0) ∨ (p6 0 ∧ ¬ SG m q n0) := by
  have bx := hx.2.2
  have e1 : (1 : Int32).toInt = 1 := rfl
  intro n
  induction n with
  | zero =>
    intro z _ _ h
    exact (show False from h).elim
  | succ n ih =>
    intro z h0 hk h
    unfold wp_X6_isRowText_L15 at h
    by_cases c : n0 ≤ z
    · have := q_le c
      exact Or.inl ⟨⟨z, h.1 c⟩, SG_st (fun y a b => hk y a (by omega)) (by omega)⟩
    · have c1 := q_nle c
      have a := nw (tq_addr e1 z) (by omega)
      have b := nw (tq_add q z) (by omega)
      have h := e5_byteAt (by omega) (h.2 c)
      rw [tb_eq hx] at h
      rcases e6_isSign h with ⟨h, g⟩ | ⟨h, g⟩
      · refine ih (z + 1) (by omega) (fun y y0 y1 => ?_) (h.1 (by decide))
        by_cases y2 : y.toInt = z.toInt
        · rw [Int32.toInt_inj.mp y2]
          exact g
        · exact hk y y0 (by omega)
      · refine Or.inr ⟨h.2 rfl, fun sg => ?_⟩
        have k := SG_to h0 c1 sg
        obtain ⟨k1, k2, k3⟩ := k
        rcases g with g | g | g
        · omega
        · omega
        · exact k3 g
theorem e7_areSigns_L {t : Tp} {v m : Md} {q n0 : Int32} {p7 : Int32 → Prop} {e7 : Int32 → Int32 → Int32 → Prop} (hx : RX t m) (hv : v.2.2.2 2 = m.2.2.2 2) (hq : 0 ≤ q.toInt) (hqn : q.toInt + n0.toInt ≤ (m.1 5).toInt) : ∀ (n : Nat) (z : Int32), 0 ≤ z.toInt → (∀ y : Int32, 0 ≤ y.toInt → y.toInt < z.toInt → SGN (tb7 m (q + y))) → wp_X7_areSigns_L2 v p7 e7 n q n0 z → ((∃ z', e7 q n0 z') ∧ SG m q n0) ∨ (p7 0 ∧ ¬ SG m q n0) := by
  have bx := hx.2.2
  have e1 : (1 : Int32).toInt = 1 := rfl
  intro n
  induction n with
  | zero =>
    intro z _ _ h
    exact (show False from h).elim
  | succ n ih =>
    intro z h0 hk h
    unfold wp_X7_areSigns_L2 at h
    by_cases c : n0 ≤ z
    · have := q_le c
      exact Or.inl ⟨⟨z, h.1 c⟩, SG_st (fun y a b => hk y a (by omega)) (by omega)⟩
    · have c1 := q_nle c
      have a := nw (tq_addr e1 z) (by omega)
      have b := nw (tq_add q z) (by omega)
      have h := (h.2 c).2
      rw [hv] at h
      have ti := tb_in (x := q + z) hx (by omega) (by omega)
      rcases e7_isSign h with ⟨h, g⟩ | ⟨h, g⟩
      · refine ih (z + 1) (by omega) (fun y y0 y1 => ?_) (h.1 (by decide))
        by_cases y2 : y.toInt = z.toInt
        · rw [Int32.toInt_inj.mp y2]
          exact ti.mpr g
        · exact hk y y0 (by omega)
      · refine Or.inr ⟨h.2 rfl, fun sg => ?_⟩
        obtain ⟨k1, k2, k3⟩ := ti.mp (SG_to h0 c1 sg)
        rcases g with g | g | g
        · omega
        · omega
        · exact k3 g
theorem e6_isRowText {P : Int32 → Prop} {t : Tp} {s : Bd} {m : Md} {q n0 : Int32} (hx : RX t m) (hq : 0 ≤ q.toInt) (hqn : q.toInt + n0.toInt ≤ (m.1 5).toInt) (h : wp_X6_isRowText P t s q n0) : (P 1 ∧ n0.toInt ≤ (s.1 1).toInt ∧ SG m q n0) ∨ (P 0 ∧ ¬ (n0.toInt ≤ (s.1 1).toInt ∧ SG m q n0)) := by
  unfold wp_X6_isRowText at h
  have e0 : (0 : Int32).toInt = 0 := rfl
  by_cases c : n0 ≤ s.1 1
  · have := q_le c
    obtain ⟨n, h⟩ := h.1 c
    rcases e6_rowText_L hx hq hqn n 0 (by decide) (fun y a b => by omega) h with ⟨⟨_, h⟩, g⟩ | ⟨h, g⟩
    · exact Or.inl ⟨h, this, g⟩
    · exact Or.inr ⟨h, fun k => g k.2⟩
  · have := q_nle c
    exact Or.inr ⟨h.2 c, fun k => by have := k.1; omega⟩
theorem e7_areSigns {P : Int32 → Prop} {t : Tp} {v m : Md} {q n0 : Int32} (hx : RX t m) (hv : v.2.2.2 2 = m.2.2.2 2) (hq : 0 ≤ q.toInt) (hqn : q.toInt + n0.toInt ≤ (m.1 5).toInt) (h : wp_X7_areSigns P v q n0) : (P 1 ∧ SG m q n0) ∨ (P 0 ∧ ¬ SG m q n0) := by
  have e0 : (0 : Int32).toInt = 0 := rfl
  unfold wp_X7_areSigns at h
  obtain ⟨n, h⟩ := h
  rcases e7_areSigns_L hx hv hq hqn n 0 (by decide) (fun y a b => by omega) h with ⟨⟨_, h⟩, g⟩ | ⟨h, g⟩
  · exact Or.inl ⟨h, g⟩
  · exact Or.inr ⟨h, g⟩
theorem e7_isRowText {P : Int32 → Prop} {t : Tp} {v m : Md} {n0 : Int32} {R W D : Int} (hf : rw_ok R W D (v.2.2.1 0)) (hx : RX t m) (hv : v.2.2.2 2 = m.2.2.2 2) (hqn : n0.toInt ≤ (m.1 5).toInt) (h : wp_X7_isRowText P v n0) : (P 1 ∧ n0.toInt ≤ W ∧ SG m 0 n0) ∨ (P 0 ∧ ¬ (n0.toInt ≤ W ∧ SG m 0 n0)) := by
  have e0 : (0 : Int32).toInt = 0 := rfl
  have rn := rw_n hf
  unfold wp_X7_isRowText at h
  have h := wide_e h
  by_cases c : Int64.toInt32 (v.2.2.1 0 1) < n0
  · have := q_lt c
    exact Or.inr ⟨h.1 c, fun k => by have := k.1; omega⟩
  · have := q_nlt c
    rcases e7_areSigns hx hv (q := 0) (by decide) (by rw [e0]; omega) (h.2 c) with ⟨h, g⟩ | ⟨h, g⟩
    · exact Or.inl ⟨h.2 (by decide), by omega, g⟩
    · exact Or.inr ⟨h.1 rfl, fun k => g k.2⟩
theorem sm_row {P6 : Int32 → Tp → Bd → Pa → Prop} {P7 : Int32 → Md → Prop} {s1 : Tp} {s6 : Pa} {s2 : Bd} {m : Md} {x1 : Int32} {N R W D : Int} (hx : RX s1 m) (hp : pa s6) (hP : RP s6 m) (hB : RB s2 (m.2.2.1 0)) (hM : mb N R W D m) (hs : R ≤ 0 ∨ 0 < D) (h6 : wp_X6_row P6 s1 s2 s6 x1) (h7 : wp_X7_row P7 m x1) : ∃ r t b p m', P6 r t b p ∧ P7 r m' ∧ AR m m' b p := by
  have e0 : (0 : Int32).toInt = 0 := rfl
  have hf := hM.2.2.2.2.1
  have hR := hf.2.2.2.2.2.1
  have rc := RB_cells hf hB
  have sz : s1.1 0 = m.1 5 := hx.1
  have bx := hx.2.2
  have M5 : mb 0 R W D ((va_up m.1 5 0), m.2.1, m.2.2.1, m.2.2.2) := by
    obtain ⟨a0, a1, a2, a3, a4, a5, a6, a7⟩ := id hM
    exact ⟨rfl, a1, ⟨by omega, by omega⟩, a3, a4, a5, a6, a7⟩
  have fl : ∀ r t, P6 r t s2 s6 → P7 r ((va_up m.1 5 0), m.2.1, m.2.2.1, m.2.2.2) → ∃ r t b p m', P6 r t b p ∧ P7 r m' ∧ AR m m' b p := fun r t a b => ⟨r, t, s2, s6, _, a, b, hB, RP_k hP rfl rfl, rfl, rfl⟩
  unfold wp_X6_row wp_X6_whyNotRow at h6
  unfold wp_X7_row at h7
  rw [sz] at h6
  rcases e0_hasRow h6 with ⟨h6, g1, g2⟩ | ⟨h6, g⟩
  · rcases e7_isRow M5.2.2.2.2.1 h7 with ⟨h7, _, _⟩ | ⟨_, g⟩
    · have h6 := h6.1 (by decide)
      have h7 := h7.1 (by decide)
      rcases e6_isRowText hx (q := 0) (by decide) (by rw [e0]; omega) h6 with ⟨h6, j1, j2⟩ | ⟨h6, j⟩
      · rcases e7_isRowText (m := m) M5.2.2.2.2.1 hx rfl (by omega) h7 with ⟨h7, _⟩ | ⟨_, j⟩
        · have h6 := (h6.2 (by decide)).2 rfl
          have h7 := h7.1 (by decide)
          obtain ⟨p, u, h6, h7, q1, q2, q3, q4, q5, q6⟩ := sm_push hp (RP_k (u := ((va_up m.1 5 0), m.2.1, m.2.2.1, m.2.2.2)) hP rfl rfl) hB M5 hs h6 h7
          have u0 : u.2.2.1 0 = m.2.2.1 0 := q6 0 (by decide)
          have hD : 0 < D := by omega
          obtain ⟨r, b', v', h6, h7, B', M', F'⟩ := sm_wantSigns (m0 := m) hD hx ⟨g1, by omega⟩ (by decide) (by omega) (by rw [e0]; omega) j2 (by rw [u0]; exact hB) q2 (by rw [q5]) h6 h7
          exact ⟨r, _, b', p, v', h6, h7, B', RP_k q1 (by rw [F'.1]) (F'.2.2.1 1 (by decide)), by rw [F'.2.2.2, q5], (F'.2.2.1 2 (by decide)).trans (q6 2 (by decide))⟩
        · exact (j ⟨by omega, j2⟩).elim
      · rcases e7_isRowText (m := m) M5.2.2.2.2.1 hx rfl (by omega) h7 with ⟨_, k1, k2⟩ | ⟨h7, _⟩
        · exact (j ⟨by omega, k2⟩).elim
        · exact fl _ _ ((h6.1 rfl).1 (by decide)) (h7.2 rfl)
    · omega
  · rcases e7_isRow M5.2.2.2.2.1 h7 with ⟨_, _, _⟩ | ⟨h7, _⟩
    · omega
    · exact fl _ _ ((h6.2 rfl).1 (by decide)) (h7.2 rfl)

/-! scroll: each row wants what the one below it wanted. -/
def WS (f : Nat → Int64) (c j : Nat) : Int32 := Int64.toInt32 (f (8 + 42 * (c_f f c 0).toNat + 2 + (c_f f c j).toNat))
theorem WS_cg {f g : Nat → Int64} {c j : Nat} (h0 : g (176 + 8 * c + 0) = f (176 + 8 * c + 0)) (h1 : g (176 + 8 * c + j) = f (176 + 8 * c + j)) (h : ∀ i : Nat, i < 176 → g i = f i) (hb : 8 + 42 * (c_f f c 0).toNat + 2 + (c_f f c j).toNat < 176) : WS g c j = WS f c j := by
  unfold WS
  have e0 : c_f g c 0 = c_f f c 0 := by unfold c_f; rw [h0]
  have e1 : c_f g c j = c_f f c j := by unfold c_f; rw [h1]
  rw [e0, e1, h _ hb]
theorem e0_signOf {P : Int32 → Prop} {s : Bd} {f : Nat → Int64} {x y : Int32} {R W D : Int} (hf : rw_ok R W D f) (hB : RB s f) (hx : 0 ≤ x.toInt ∧ x.toInt < D) (hy : 0 ≤ y.toInt ∧ y.toInt < d_f f x.toInt.toNat) (h : wp_X0_signOf P s x y) : P (Int64.toInt32 (f (8 + 42 * x.toInt.toNat + 2 + y.toInt.toNat))) := by
  have e0 : (0 : Int32).toInt = 0 := rfl
  have hR := hf.2.2.2.2.2.1
  have rc := RB_cells hf hB
  have k := RB_fl (d := x.toInt.toNat) hf hB (by omega)
  unfold wp_X0_signOf at h
  have h := h.2 (fun c => by have := q_lt c; omega)
  have h := h.2 (fun c => by have := q_le c; omega)
  have h := (h.2 (fun c => by have := q_lt c; omega)).2
  rw [tn_i] at h
  have h := (h.1 (Int32.lt_iff_toInt_lt.mpr (by omega))).2
  rw [ix40 (by omega) (by omega) (by omega) (by omega)] at h
  have q := (hB.2.1.2 x.toInt.toNat (by rw [hf.2.2.1]; omega)).2.2.2 y.toInt.toNat (by omega)
  rw [q] at h
  exact h
theorem e0_signOn {P : Int32 → Prop} {s : Bd} {f : Nat → Int64} {x y : Int32} {j : Nat} {R W D : Int} (hf : rw_ok R W D f) (hD : 0 < D) (hB : RB s f) (hx : 0 ≤ x.toInt ∧ x.toInt < R * W) (hj : 1 ≤ j ∧ j ≤ 3) (hy : y = Int64.toInt32 (f (176 + 8 * x.toInt.toNat + j))) (h : wp_X0_signOn P s x y) : P (WS f x.toInt.toNat j) := by
  obtain ⟨q0, q1, q2, q3, q4, q5⟩ := cl_f (c := x.toInt.toNat) hf hD (by omega)
  have at_ := RB_x (c := x.toInt.toNat) hf hB (by omega)
  unfold wp_X0_signOn at h
  have h := h.2
  rw [tn_i, at_.1] at h
  have a0 : (Int64.toInt32 (f (176 + 8 * x.toInt.toNat + 0))).toInt = c_f f x.toInt.toNat 0 := by
    rw [t32 (by unfold c_f at q0; omega)]
    rfl
  have bj : 0 ≤ c_f f x.toInt.toNat j ∧ c_f f x.toInt.toNat j < d_f f (c_f f x.toInt.toNat 0).toNat := by
    rcases (show j = 1 ∨ j = 2 ∨ j = 3 by omega) with rfl | rfl | rfl
    · exact q2
    · exact q3
    · exact ⟨q4.1, q4.2⟩
  have aj : y.toInt = c_f f x.toInt.toNat j := by
    have z : (f (176 + 8 * x.toInt.toNat + j)).toInt = c_f f x.toInt.toNat j := rfl
    have := q1.2
    rw [hy, t32 (by omega)]
    exact z
  have h := e0_signOf hf hB (by omega) (by rw [a0]; omega) h
  rw [a0, aj] at h
  exact h
theorem e0_wantedSign {P : Int32 → Prop} {s : Bd} {f : Nat → Int64} {x : Int32} {R W D : Int} (hf : rw_ok R W D f) (hD : 0 < D) (hB : RB s f) (hx : 0 ≤ x.toInt ∧ x.toInt < R * W) (h : wp_X0_wantedSign P s x) : P (WS f x.toInt.toNat 3) := by
  have at_ := RB_x (c := x.toInt.toNat) hf hB (by omega)
  unfold wp_X0_wantedSign at h
  have h := h.2
  rw [tn_i] at h
  exact e0_signOn hf hD hB hx (by decide) at_.2.2.2.1 h
theorem e7_signAt {P : Int32 → Prop} {s : Md} {x k : Int32} {j : Nat} {R W D : Int} (hf : rw_ok R W D (s.2.2.1 0)) (hD : 0 < D) (hx : 0 ≤ x.toInt ∧ x.toInt < R * W) (hk : k.toInt = (j : Int)) (hj : 1 ≤ j ∧ j ≤ 3) (h : wp_X7_of (fun r => wp_X7_of (fun q => wp_X7_signOf P s r q) s x k) s x (0 : Int32)) : P (WS (s.2.2.1 0) x.toInt.toNat j) := by
  obtain ⟨q0, q1, q2, q3, q4, q5⟩ := cl_f (c := x.toInt.toNat) hf hD (by omega)
  have h := e7_of (i := 0) hx.1 (by omega) rfl (by decide) h
  have h := e7_of (i := j) hx.1 (by omega) hk (by omega) h
  have a0 : (Int64.toInt32 (s.2.2.1 0 (176 + 8 * x.toInt.toNat + 0))).toInt = c_f (s.2.2.1 0) x.toInt.toNat 0 := by
    rw [t32 (by unfold c_f at q0; omega)]
    rfl
  have bj : 0 ≤ c_f (s.2.2.1 0) x.toInt.toNat j ∧ c_f (s.2.2.1 0) x.toInt.toNat j < d_f (s.2.2.1 0) (c_f (s.2.2.1 0) x.toInt.toNat 0).toNat := by
    rcases (show j = 1 ∨ j = 2 ∨ j = 3 by omega) with rfl | rfl | rfl
    · exact q2
    · exact q3
    · exact ⟨q4.1, q4.2⟩
  have aj : (Int64.toInt32 (s.2.2.1 0 (176 + 8 * x.toInt.toNat + j))).toInt = c_f (s.2.2.1 0) x.toInt.toNat j := by
    have z : (s.2.2.1 0 (176 + 8 * x.toInt.toNat + j)).toInt = c_f (s.2.2.1 0) x.toInt.toNat j := rfl
    have := q1.2
    rw [t32 (by omega)]
    exact z
  have h := e7_signOf (by omega) (by omega) (by omega) (by omega) h
  rw [a0, aj] at h
  exact h
theorem e7_scr5_L {R W D : Int} {f : Nat → Int64} {z1 z2 z3 : Int32} {p7 : Int32 → Md → Prop} {e7 : Md → Int32 → Int32 → Int32 → Int32 → Prop} (hf : rw_ok R W D f) (hD : 0 < D) : ∀ (n : Nat) (s : Md) (z : Int32), s.2.2.1 0 = f → 0 ≤ z.toInt → (∀ c : Nat, (c : Int) < z.toInt → (c : Int) < R * W → s.2.2.2 1 c = WS f c 3) → wp_X7_scrolls_L5 p7 e7 n s z1 z2 z3 z → ∃ u z', e7 u z1 z2 z3 z' ∧ u.1 = s.1 ∧ u.2.1 = s.2.1 ∧ u.2.2.1 = s.2.2.1 ∧ (∀ k, ¬ k = 1 → u.2.2.2 k = s.2.2.2 k) ∧ (∀ c : Nat, (c : Int) < R * W → u.2.2.2 1 c = WS f c 3) := by
  have rn := rw_n hf
  have e1 : (1 : Int32).toInt = 1 := rfl
  intro n
  induction n with
  | zero =>
    intro s z _ _ _ h
    exact (show False from h).elim
  | succ n ih =>
    intro s z hr h0 hk h
    unfold wp_X7_scrolls_L5 at h
    have h := cells7_e h
    rw [hr] at h
    by_cases c : Int64.toInt32 (f 0) * Int64.toInt32 (f 1) ≤ z
    · have := q_le c
      exact ⟨s, z, h.1 c, rfl, rfl, rfl, fun _ _ => rfl, fun k h => hk k (by omega) h⟩
    · have c1 := q_nle c
      have a := nw (tq_addr e1 z) (by omega)
      have h := e7_signAt (s := s) (x := z) (j := 3) (by rw [hr]; exact hf) hD (by omega) rfl (by decide) (h.2 c)
      rw [hr, tn_i] at h
      obtain ⟨u, z', g1, g2, g3, g4, g5, g6⟩ := ih (s.1, s.2.1, s.2.2.1, (va_up s.2.2.2 1 (upd (s.2.2.2 1) z.toInt.toNat (WS f z.toInt.toNat 3)))) (z + 1) hr (by omega) (fun k k1 k2 => by
        show upd (s.2.2.2 1) z.toInt.toNat (WS f z.toInt.toNat 3) k = _
        by_cases e : k = z.toInt.toNat
        · rw [e]
          exact up_e
        · rw [up_n e]
          exact hk k (by omega) k2) h.2
      exact ⟨u, z', g1, g2, g3, g4, fun k hk => (g5 k hk).trans (va_n hk), g6⟩
theorem sm_scr_L {t : Tp} {N R W D : Int} {q n0 : Int32} {p6 : Int32 → Bd → Prop} {e6 : Bd → Int32 → Int32 → Int32 → Int32 → Prop} {p7 : Int32 → Md → Prop} {e7 : Md → Int32 → Int32 → Int32 → Int32 → Prop} (hD : 0 < D) : ∀ (n6 n7 : Nat) (b : Bd) (v : Md) (z5 z : Int32), 0 ≤ z.toInt → z.toInt ≤ 40 → RB b (v.2.2.1 0) → mb N R W D v → (∀ c : Nat, z.toInt ≤ (c : Int) → (c : Int) < R * W → v.2.2.2 1 c = WS (v.2.2.1 0) c 3) → wp_X0_scrollUp_L6 t p6 e6 n6 b q n0 z5 z → wp_X7_scrolls_L48 p7 e7 n7 v q n0 z5 z → ∃ b' v' r z6 z7, e6 b' q n0 r z6 ∧ e7 v' q n0 r z7 ∧ RB b' (v'.2.2.1 0) ∧ mb N R W D v' ∧ FN v v' := by
  have e1 : (1 : Int32).toInt = 1 := rfl
  intro n6
  induction n6 with
  | zero =>
    intro n7 b v z5 z _ _ _ _ _ h
    exact (show False from h).elim
  | succ n6 ih =>
    intro n7 b v z5 z h0 h1 hB hM hw h6 h7
    cases n7 with
    | zero => exact (show False from h7).elim
    | succ n7 =>
      have hf := hM.2.2.2.2.1
      have hR := hf.2.2.2.2.2.1
      have rn := rw_n hf
      have rc := RB_cells hf hB
      unfold wp_X0_scrollUp_L6 at h6
      unfold wp_X7_scrolls_L48 at h7
      have h6 := cells6_e h6
      have h7 := cells7_e (wide_e h7)
      rw [← hB.1.1, ← hB.1.2.1] at h7
      have a1 := nw (tq_sub (b.1 0 * b.1 1) (b.1 1)) (by omega)
      have a2 := nw (tq_add z (b.1 1)) (by omega)
      have a3 := nw (tq_addr e1 z) (by omega)
      by_cases c : b.1 0 * b.1 1 - b.1 1 ≤ z
      · have c1 := q_le c
        have c7 : b.1 0 * b.1 1 ≤ z + b.1 1 := Int32.le_iff_toInt_le.mpr (by omega)
        exact ⟨b, v, z5, z, z, h6.1 c, h7.1 c7, hB, hM, FN_rf v⟩
      · have c1 := q_nle c
        have c7 : ¬ b.1 0 * b.1 1 ≤ z + b.1 1 := fun g => by have := q_le g; omega
        have h6 := e0_wantedSign hf hD hB (by omega) (h6.2 c)
        have h7 := wide_e (h7.2 c7)
        rw [← hB.1.2.1] at h7
        have h7 := h7.2
        rw [tn_i, hw _ (by omega) (by omega)] at h7
        have at_ := RB_x (c := z.toInt.toNat) hf hB (by omega)
        obtain ⟨r6, h6, nv6⟩ := near6 hf hD (RB_d hB) h0 (by omega) at_.1 at_.2.2.1 at_.2.2.2.2.2.2.2 h6
        obtain ⟨r7, h7, nv7⟩ := near7 hf hD (RS_rf _ _) h0 (by omega) h7
        have er : r6 = r7 := NV_u hf hD (by omega) nv6 nv7
        subst er
        by_cases y : r6 = -1
        · rcases e0_wantFlap h6 with ⟨_, h6⟩ | ⟨y2, _⟩
          · obtain ⟨b', v', r', z6, z7, g1, g2, g3, g4, g5⟩ := ih n7 b v (z5 + 1) (z + 1) (by omega) (by omega) hB hM (fun k k1 k2 => hw k (by omega) k2) h6 (h7.2 y)
            exact ⟨b', v', r', z6, z7, g1, g2, g3, g4, g5⟩
          · exact (y2 y).elim
        · rcases NV_b nv7 with y2 | y2
          · exact (y y2).elim
          · obtain ⟨b2, v2, h6, h7, B2, M2, F2, X2⟩ := sm_wantFlapX hM hD hB h0 (by omega) ⟨y, y2.2.1, y2.2.2⟩ h6 (h7.1 y)
            rw [Int32.add_zero] at h6
            obtain ⟨b', v', r', z6, z7, g1, g2, g3, g4, g5⟩ := ih n7 b2 v2 z5 (z + 1) (by omega) (by omega) B2 M2 (fun k k1 k2 => by
              obtain ⟨q0, q1, q2, q3, q4, q5⟩ := cl_f (c := k) hf hD k2
              rw [F2.2.2.2, hw k (by omega) k2]
              exact (WS_cg (X2 _ (by omega) (by omega)) (X2 _ (by omega) (by omega)) (fun i hi => X2 i (by omega) (by omega)) (by omega)).symm) h6 h7
            exact ⟨b', v', r', z6, z7, g1, g2, g3, g4, FN_tr F2 g5⟩
theorem FN1_mb {N R W D : Int} {s u : Md} (hM : mb N R W D s) (h1 : u.1 = s.1) (h2 : u.2.2.1 = s.2.2.1) (h3 : u.2.2.2 0 = s.2.2.2 0) : mb N R W D u := by
  obtain ⟨a0, a1, a2, a3, a4, a5, a6, a7⟩ := id hM
  refine ⟨by rw [h1]; exact a0, by rw [h1]; exact a1, a2, a3, by rw [h2]; exact a4, ?_, ?_, by rw [h2]; exact a7⟩
  · rw [h1, h2]
    exact a5
  · rw [h2, h3]
    exact a6
theorem sm_scrolls {P6 : Int32 → Bd → Prop} {P7 : Int32 → Md → Prop} {t : Tp} {m0 : Md} {b : Bd} {v : Md} {N R W D : Int} {q n0 : Int32} (hD : 0 < D) (hxx : RX t m0) (hq : 0 ≤ q.toInt) (hn : 0 ≤ n0.toInt) (hqn : q.toInt + n0.toInt ≤ (m0.1 5).toInt) (hs : SG m0 q n0) (hB : RB b (v.2.2.1 0)) (hM : mb N R W D v) (hv : v.2.2.2 2 = m0.2.2.2 2) (h6 : wp_X0_scrollUp P6 b t q n0) (h7 : wp_X7_scrolls P7 v q n0) : ∃ r b' v', P6 r b' ∧ P7 r v' ∧ RB b' (v'.2.2.1 0) ∧ mb N R W D v' ∧ v'.1 = v.1 ∧ (∀ k, ¬ k = 0 → v'.2.2.1 k = v.2.2.1 k) ∧ (∀ k, ¬ k = 1 → v'.2.2.2 k = v.2.2.2 k) := by
  have e0 : (0 : Int32).toInt = 0 := rfl
  have e1 : (1 : Int32).toInt = 1 := rfl
  have hR := hM.2.2.2.2.1.2.2.2.2.2.1
  unfold wp_X0_scrollUp at h6
  unfold wp_X7_scrolls at h7
  obtain ⟨n6, h6⟩ := h6
  obtain ⟨n7, h7⟩ := h7
  obtain ⟨u, z', h7, u1, u2, u3, u4, u5⟩ := e7_scr5_L hM.2.2.2.2.1 hD n7 v 0 rfl (by decide) (fun c g _ => by omega) h7
  obtain ⟨n8, h7⟩ := h7
  have Mu : mb N R W D u := FN1_mb hM u1 u3 (u4 0 (by decide))
  obtain ⟨b1, v1, r1, z6, z7, h6, h7, B1, M1, F1⟩ := sm_scr_L (N := N) hD n6 n8 b u 0 0 (by decide) (by decide) (by rw [u3]; exact hB) Mu (fun c _ g => by rw [u5 c g, u3]) h6 h7
  have h7 := rows_e h7
  rw [← B1.1.1] at h7
  have rc := RB_cells M1.2.2.2.2.1 B1
  have s1 := nw (tq_subr e1 (b1.1 0)) (by omega)
  have k2 : v1.2.2.2 2 = m0.2.2.2 2 := by rw [F1.2.2.2, u4 2 (by decide), hv]
  obtain ⟨r, b', v', g1, g2, g3, g4, g5⟩ := sm_wantSigns (m0 := m0) hD hxx (by omega) hq hn hqn hs B1 M1 k2 h6 h7
  refine ⟨_, b', v', g1, g2, g3, g4, ?_, fun k hk => ?_, fun k hk => ?_⟩
  · rw [g5.1, F1.1, u1]
  · rw [g5.2.2.1 k hk, F1.2.2.1 k hk, u3]
  · rw [g5.2.2.2, F1.2.2.2, u4 k hk]
theorem sm_scroll {P6 : Int32 → Tp → Bd → Pa → Prop} {P7 : Int32 → Md → Prop} {s1 : Tp} {s6 : Pa} {s2 : Bd} {m : Md} {N R W D : Int} (hx : RX s1 m) (hp : pa s6) (hP : RP s6 m) (hB : RB s2 (m.2.2.1 0)) (hM : mb N R W D m) (hs : R ≤ 0 ∨ 0 < D) (h6 : wp_X6_scroll P6 s1 s2 s6) (h7 : wp_X7_scroll P7 m) : ∃ r t b p m', P6 r t b p ∧ P7 r m' ∧ AR m m' b p := by
  have e0 : (0 : Int32).toInt = 0 := rfl
  have e1 : (1 : Int32).toInt = 1 := rfl
  have hf := hM.2.2.2.2.1
  have hR := hf.2.2.2.2.2.1
  have rc := RB_cells hf hB
  have sz : s1.1 0 = m.1 5 := hx.1
  have bx := hx.2.2
  have M5 : mb 0 R W D ((va_up m.1 5 0), m.2.1, m.2.2.1, m.2.2.2) := by
    obtain ⟨a0, a1, a2, a3, a4, a5, a6, a7⟩ := id hM
    exact ⟨rfl, a1, ⟨by omega, by omega⟩, a3, a4, a5, a6, a7⟩
  have fl : ∀ r t, P6 r t s2 s6 → P7 r ((va_up m.1 5 0), m.2.1, m.2.2.1, m.2.2.2) → ∃ r t b p m', P6 r t b p ∧ P7 r m' ∧ AR m m' b p := fun r t a b => ⟨r, t, s2, s6, _, a, b, hB, RP_k hP rfl rfl, rfl, rfl⟩
  have sr := nw (tq_subr e1 (s2.1 0)) (by omega)
  unfold wp_X6_scroll wp_X6_whyNotRow at h6
  unfold wp_X7_scroll at h7
  rw [sz] at h6
  rcases e0_hasRow h6 with ⟨h6, g1, g2⟩ | ⟨h6, g⟩
  · rcases e7_isBoard M5.2.2.2.2.1 h7 with ⟨h7, hD⟩ | ⟨_, g⟩
    · have h6 := h6.1 (by decide)
      have h7 := h7.1 (by decide)
      rcases e6_isRowText hx (q := 0) (by decide) (by rw [e0]; omega) h6 with ⟨h6, j1, j2⟩ | ⟨h6, j⟩
      · rcases e7_isRowText (m := m) M5.2.2.2.2.1 hx rfl (by omega) h7 with ⟨h7, _⟩ | ⟨_, j⟩
        · have h6 := (h6.2 (by decide)).2 rfl
          have h7 := h7.1 (by decide)
          obtain ⟨p, u, h6, h7, q1, q2, q3, q4, q5, q6⟩ := sm_push hp (RP_k (u := ((va_up m.1 5 0), m.2.1, m.2.2.1, m.2.2.2)) hP rfl rfl) hB M5 hs h6 h7
          have u0 : u.2.2.1 0 = m.2.2.1 0 := q6 0 (by decide)
          obtain ⟨r, b', v', h6, h7, B', M', F1, F2, F3⟩ := sm_scrolls (m0 := m) hD hx (by decide) (by omega) (by rw [e0]; omega) j2 (by rw [u0]; exact hB) q2 (by rw [q5]) h6 h7
          exact ⟨r, _, b', p, v', h6, h7, B', RP_k q1 (by rw [F1]) (F2 1 (by decide)), by rw [F3 0 (by decide), q5], (F2 2 (by decide)).trans (q6 2 (by decide))⟩
        · exact (j ⟨by omega, j2⟩).elim
      · rcases e7_isRowText (m := m) M5.2.2.2.2.1 hx rfl (by omega) h7 with ⟨_, k1, k2⟩ | ⟨h7, _⟩
        · exact (j ⟨by omega, k2⟩).elim
        · exact fl _ _ ((h6.1 rfl).1 (by decide)) (h7.2 rfl)
    · omega
  · rcases e7_isBoard M5.2.2.2.2.1 h7 with ⟨_, hD⟩ | ⟨h7, _⟩
    · omega
    · exact fl _ _ ((h6.2 rfl).1 (by decide)) (h7.2 rfl)

/-! One step of a cell. -/
def bh (r n : Int32) : Int32 := if n ≤ r + 1 then 0 else r + 1
theorem bh_e {P : Int32 → Prop} {r n : Int32} (h : wp_X6_behind P r n) : P (bh r n) := by
  unfold wp_X6_behind at h
  unfold bh
  by_cases c : n ≤ r + 1
  · rw [if_pos c]
    exact h.1 c
  · rw [if_neg c]
    exact h.2 c
theorem bh_m {r n : Int32} (h : 0 ≤ r.toInt ∧ r.toInt < n.toInt ∧ n.toInt ≤ 40) : (r + 1) - (r + 1) / n * n = bh r n := by
  have e1 : (1 : Int32).toInt = 1 := rfl
  have e0 : (0 : Int32).toInt = 0 := rfl
  have a := nw (tq_addr e1 r) (by omega)
  have x := tq_64 ((r + 1) - (r + 1) / n * n)
  refine Int32.toInt_inj.mp ?_
  unfold bh
  rcases inc_m h with ⟨g, k⟩ | ⟨g, k⟩
  · rw [if_neg (fun c => by have := q_le c; omega)]
    omega
  · rw [if_pos (Int32.le_iff_toInt_le.mpr (by omega))]
    omega
/-- what a step makes of a cell: shows, believes, loses, found -/
def ST (F sh be lo : Int32) : Int32 × Int32 × Int32 × Int32 := if lo ≤ 0 then (if bh sh F = 0 then (0, 0, lo, bh be F) else (bh sh F, bh be F, lo, 0)) else (sh, bh be F, lo - 1, 0)

/-! One step of a cell, by the reference. -/
def SR (f g : Nat → Int64) (c : Nat) (F : Int32) : Prop := (∀ i, ¬ (176 + 8 * c ≤ i ∧ i < 176 + 8 * c + 8) → ¬ (i = 6 ∨ i = 7) → g i = f i) ∧ g (176 + 8 * c + 0) = f (176 + 8 * c + 0) ∧ g (176 + 8 * c + 3) = f (176 + 8 * c + 3) ∧ g (176 + 8 * c + 7) = f (176 + 8 * c + 7) ∧ Int64.toInt32 (g (176 + 8 * c + 1)) = (ST F (Int64.toInt32 (f (176 + 8 * c + 1))) (Int64.toInt32 (f (176 + 8 * c + 2))) (Int64.toInt32 (f (176 + 8 * c + 4)))).1 ∧ Int64.toInt32 (g (176 + 8 * c + 2)) = (ST F (Int64.toInt32 (f (176 + 8 * c + 1))) (Int64.toInt32 (f (176 + 8 * c + 2))) (Int64.toInt32 (f (176 + 8 * c + 4)))).2.1 ∧ Int64.toInt32 (g (176 + 8 * c + 4)) = (ST F (Int64.toInt32 (f (176 + 8 * c + 1))) (Int64.toInt32 (f (176 + 8 * c + 2))) (Int64.toInt32 (f (176 + 8 * c + 4)))).2.2.1 ∧ Int64.toInt32 (g (176 + 8 * c + 5)) = Int64.toInt32 (f (176 + 8 * c + 5)) + 1 ∧ Int64.toInt32 (g (176 + 8 * c + 6)) = Int64.toInt32 (f (176 + 8 * c + 6)) + (ST F (Int64.toInt32 (f (176 + 8 * c + 1))) (Int64.toInt32 (f (176 + 8 * c + 2))) (Int64.toInt32 (f (176 + 8 * c + 4)))).2.2.2 ∧ g 6 = f 6 + 1 ∧ g 7 = f 7 + Int32.toInt64 (ST F (Int64.toInt32 (f (176 + 8 * c + 1))) (Int64.toInt32 (f (176 + 8 * c + 2))) (Int64.toInt32 (f (176 + 8 * c + 4)))).2.2.2
theorem flF_c {f g : Nat → Int64} {c : Nat} {R W D : Int} (hf : rw_ok R W D f) (hD : 0 < D) (hc : (c : Int) < R * W) (h0 : g (176 + 8 * c + 0) = f (176 + 8 * c + 0)) (h : ∀ i : Nat, 8 ≤ i → i < 176 → g i = f i) : flF g c = flF f c := by
  obtain ⟨q0, q1, q2, q3, q4, q5⟩ := cl_f (c := c) hf hD hc
  unfold flF
  have e : c_f g c 0 = c_f f c 0 := by unfold c_f; rw [h0]
  rw [e]
  unfold d_f
  rw [h _ (by omega) (by omega)]
theorem e7_flG {P : Int32 → Prop} {s : Md} {f : Nat → Int64} {x : Int32} {R W D : Int} (hf : rw_ok R W D f) (hD : 0 < D) (h0 : 0 ≤ x.toInt) (h1 : x.toInt < R * W) (g0 : s.2.2.1 0 (176 + 8 * x.toInt.toNat + 0) = f (176 + 8 * x.toInt.toNat + 0)) (hg : ∀ i : Nat, 8 ≤ i → i < 176 → s.2.2.1 0 i = f i) (h : wp_X7_flaps P s x) : P (Int64.toInt32 (f (8 + 42 * (c_f f x.toInt.toNat 0).toNat + 1))) := by
  obtain ⟨q0, q1, q2, q3, q4, q5⟩ := cl_f (c := x.toInt.toNat) hf hD (by omega)
  unfold wp_X7_flaps at h
  have h := e7_of (i := 0) h0 (by omega) rfl (by decide) h
  rw [g0] at h
  have e : (Int64.toInt32 (f (176 + 8 * x.toInt.toNat + 0))).toInt = c_f f x.toInt.toNat 0 := by
    rw [t32 (by unfold c_f at q0; omega)]
    rfl
  have h := e7_flapsOf (by omega) (by omega) h
  rw [e, hg _ (by omega) (by omega)] at h
  exact h
theorem e7_steps {P : Md → Prop} {s : Md} {x : Int32} {R W D : Int} (hf : rw_ok R W D (s.2.2.1 0)) (hD : 0 < D) (h0 : 0 ≤ x.toInt) (h1 : x.toInt < R * W) (h : wp_X7_steps P s x) : ∃ F : Int32, F.toInt = flF (s.2.2.1 0) x.toInt.toNat ∧ ∃ u, P u ∧ FN s u ∧ SR (s.2.2.1 0) (u.2.2.1 0) x.toInt.toNat F := by
  obtain ⟨q0, q1, q2, q3, q4, q5⟩ := cl_f (c := x.toInt.toNat) hf hD (by omega)
  have e0 : (0 : Int32).toInt = 0 := rfl
  have z0 : Int64.toInt32 0 = 0 := rfl
  have z64 : Int32.toInt64 0 = 0 := rfl
  have t6 : Int32.toNatClampNeg 6 = 6 := rfl
  have t7 : Int32.toNatClampNeg 7 = 7 := rfl
  unfold wp_X7_steps at h
  have h := e7_of (i := 2) h0 (by omega) rfl (by decide) h
  have h := e7_flG hf hD h0 h1 rfl (fun _ _ _ => rfl) h
  have eF : (Int64.toInt32 (s.2.2.1 0 (8 + 42 * (c_f (s.2.2.1 0) x.toInt.toNat 0).toNat + 1))).toInt = flF (s.2.2.1 0) x.toInt.toNat := by
    rw [t32 (by unfold d_f at q1; omega)]
    rfl
  have eb : (Int64.toInt32 (s.2.2.1 0 (176 + 8 * x.toInt.toNat + 2))).toInt = c_f (s.2.2.1 0) x.toInt.toNat 2 := by
    have z : (s.2.2.1 0 (176 + 8 * x.toInt.toNat + 2)).toInt = c_f (s.2.2.1 0) x.toInt.toNat 2 := rfl
    have := q1.2
    rw [t32 (by omega)]
    exact z
  have es : (Int64.toInt32 (s.2.2.1 0 (176 + 8 * x.toInt.toNat + 1))).toInt = c_f (s.2.2.1 0) x.toInt.toNat 1 := by
    have z : (s.2.2.1 0 (176 + 8 * x.toInt.toNat + 1)).toInt = c_f (s.2.2.1 0) x.toInt.toNat 1 := rfl
    have := q1.2
    rw [t32 (by omega)]
    exact z
  have hF40 : flF (s.2.2.1 0) x.toInt.toNat ≤ 40 := q1.2
  have h3 : c_f (s.2.2.1 0) x.toInt.toNat 2 < flF (s.2.2.1 0) x.toInt.toNat := q3.2
  have h2 : c_f (s.2.2.1 0) x.toInt.toNat 1 < flF (s.2.2.1 0) x.toInt.toNat := q2.2
  generalize hFe : Int64.toInt32 (s.2.2.1 0 (8 + 42 * (c_f (s.2.2.1 0) x.toInt.toNat 0).toNat + 1)) = F at *
  refine ⟨F, eF, ?_⟩
  have h := h.2
  rw [bh_m (by omega)] at h
  obtain ⟨u1, h, f1, g1⟩ := e7_sets (i := 2) h0 (by omega) rfl (by decide) h
  have h := e7_of (i := 5) h0 (by omega) rfl (by decide) h
  obtain ⟨u2, h, f2, g2⟩ := e7_sets (i := 5) h0 (by omega) rfl (by decide) h
  have h := e7_of (i := 4) h0 (by omega) rfl (by decide) h
  rw [t6] at h
  have rw3 : ∀ i, ¬ i = 6 → ¬ i = 176 + 8 * x.toInt.toNat + 5 → ¬ i = 176 + 8 * x.toInt.toNat + 2 → ((u2.1, u2.2.1, (va_up u2.2.2.1 0 (vp_updL (u2.2.2.1 0) 6 ((u2.2.2.1 0 6) + 1))), u2.2.2.2) : Md).2.2.1 0 i = s.2.2.1 0 i := by
    intro i a b c
    show vp_updL (u2.2.2.1 0) 6 _ i = _
    rw [uL_n a, g2, uL_n b, g1, uL_n c]
  have r6 : u2.2.2.1 0 6 = s.2.2.1 0 6 := by rw [g2, uL_n (by omega), g1, uL_n (by omega)]
  have f3 : FN s (u2.1, u2.2.1, (va_up u2.2.2.1 0 (vp_updL (u2.2.2.1 0) 6 ((u2.2.2.1 0 6) + 1))), u2.2.2.2) := FN_tr f1 (FN_tr f2 (FN_up u2 _))
  have v5 : ((u2.1, u2.2.1, (va_up u2.2.2.1 0 (vp_updL (u2.2.2.1 0) 6 ((u2.2.2.1 0 6) + 1))), u2.2.2.2) : Md).2.2.1 0 (176 + 8 * x.toInt.toNat + 5) = Int32.toInt64 (Int64.toInt32 (s.2.2.1 0 (176 + 8 * x.toInt.toNat + 5)) + 1) := by
    show vp_updL (u2.2.2.1 0) 6 _ _ = _
    rw [uL_n (by omega), g2, uL_e, g1, uL_n (by omega)]
  have v2 : ((u2.1, u2.2.1, (va_up u2.2.2.1 0 (vp_updL (u2.2.2.1 0) 6 ((u2.2.2.1 0 6) + 1))), u2.2.2.2) : Md).2.2.1 0 (176 + 8 * x.toInt.toNat + 2) = Int32.toInt64 (bh (Int64.toInt32 (s.2.2.1 0 (176 + 8 * x.toInt.toNat + 2))) F) := by
    show vp_updL (u2.2.2.1 0) 6 _ _ = _
    rw [uL_n (by omega), g2, uL_n (by omega), g1, uL_e]
  have v6 : ((u2.1, u2.2.1, (va_up u2.2.2.1 0 (vp_updL (u2.2.2.1 0) 6 ((u2.2.2.1 0 6) + 1))), u2.2.2.2) : Md).2.2.1 0 6 = s.2.2.1 0 6 + 1 := by
    show vp_updL (u2.2.2.1 0) 6 ((u2.2.2.1 0 6) + 1) 6 = _
    rw [uL_e, r6]
  generalize hu3 : ((u2.1, u2.2.1, (va_up u2.2.2.1 0 (vp_updL (u2.2.2.1 0) 6 ((u2.2.2.1 0 6) + 1))), u2.2.2.2) : Md) = u3 at *
  rw [rw3 _ (by omega) (by omega) (by omega)] at h
  by_cases c : Int64.toInt32 (s.2.2.1 0 (176 + 8 * x.toInt.toNat + 4)) ≤ 0
  · have h := e7_of (i := 1) h0 (by omega) rfl (by decide) (h.1 c)
    have h := e7_flG hf hD h0 h1 (rw3 _ (by omega) (by omega) (by omega)) (fun i a b => rw3 i (by omega) (by omega) (by omega)) h
    rw [hFe, rw3 _ (by omega) (by omega) (by omega)] at h
    have h := h.2
    rw [bh_m (by omega)] at h
    obtain ⟨u4, h, f4, g4⟩ := e7_sets (i := 1) h0 (by omega) rfl (by decide) h
    have h := e7_of (i := 1) h0 (by omega) rfl (by decide) h
    rw [g4, uL_e, t32_64] at h
    have stp : ST F (Int64.toInt32 (s.2.2.1 0 (176 + 8 * x.toInt.toNat + 1))) (Int64.toInt32 (s.2.2.1 0 (176 + 8 * x.toInt.toNat + 2))) (Int64.toInt32 (s.2.2.1 0 (176 + 8 * x.toInt.toNat + 4))) = (if bh (Int64.toInt32 (s.2.2.1 0 (176 + 8 * x.toInt.toNat + 1))) F = 0 then (0, 0, Int64.toInt32 (s.2.2.1 0 (176 + 8 * x.toInt.toNat + 4)), bh (Int64.toInt32 (s.2.2.1 0 (176 + 8 * x.toInt.toNat + 2))) F) else (bh (Int64.toInt32 (s.2.2.1 0 (176 + 8 * x.toInt.toNat + 1))) F, bh (Int64.toInt32 (s.2.2.1 0 (176 + 8 * x.toInt.toNat + 2))) F, Int64.toInt32 (s.2.2.1 0 (176 + 8 * x.toInt.toNat + 4)), 0)) := by
      unfold ST
      rw [if_pos c]
    unfold SR
    rw [stp]
    by_cases c2 : bh (Int64.toInt32 (s.2.2.1 0 (176 + 8 * x.toInt.toNat + 1))) F = 0
    · rw [if_pos c2]
      have h := e7_of (i := 6) h0 (by omega) rfl (by decide) (h.1 c2)
      obtain ⟨u5, h, f5, g5⟩ := e7_sets (i := 6) h0 (by omega) rfl (by decide) h
      rw [t7] at h
      obtain ⟨u6, h, f6, g6⟩ := e7_sets (i := 2) h0 (by omega) rfl (by decide) h
      have g6 : u6.2.2.1 0 = vp_updL (vp_updL (u5.2.2.1 0) 7 ((u5.2.2.1 0 7) + Int32.toInt64 (bh (Int64.toInt32 (s.2.2.1 0 (176 + 8 * x.toInt.toNat + 2))) F))) (176 + 8 * x.toInt.toNat + 2) 0 := g6
      refine ⟨u6, h, FN_tr f3 (FN_tr f4 (FN_tr f5 (FN_tr (FN_up u5 _) f6))), fun i a b => ?_, ?_, ?_, ?_, ?_, ?_, ?_, ?_, ?_, ?_, ?_⟩
      · rw [g6, uL_n (by omega), uL_n (by omega), g5, uL_n (by omega), g4, uL_n (by omega)]
        exact rw3 i (by omega) (by omega) (by omega)
      · rw [g6, uL_n (by omega), uL_n (by omega), g5, uL_n (by omega), g4, uL_n (by omega)]
        exact rw3 _ (by omega) (by omega) (by omega)
      · rw [g6, uL_n (by omega), uL_n (by omega), g5, uL_n (by omega), g4, uL_n (by omega)]
        exact rw3 _ (by omega) (by omega) (by omega)
      · rw [g6, uL_n (by omega), uL_n (by omega), g5, uL_n (by omega), g4, uL_n (by omega)]
        exact rw3 _ (by omega) (by omega) (by omega)
      · rw [g6, uL_n (by omega), uL_n (by omega), g5, uL_n (by omega), g4, uL_e, t32_64]
        exact c2
      · rw [g6, uL_e]
        rfl
      · rw [g6, uL_n (by omega), uL_n (by omega), g5, uL_n (by omega), g4, uL_n (by omega), rw3 _ (by omega) (by omega) (by omega)]
      · rw [g6, uL_n (by omega), uL_n (by omega), g5, uL_n (by omega), g4, uL_n (by omega), v5, t32_64]
      · rw [g6, uL_n (by omega), uL_n (by omega), g5, uL_e, t32_64, g4, uL_n (by omega), rw3 _ (by omega) (by omega) (by omega)]
      · rw [g6, uL_n (by omega), uL_n (by omega), g5, uL_n (by omega), g4, uL_n (by omega)]
        exact v6
      · rw [g6, uL_n (by omega), uL_e, g5, uL_n (by omega), g4, uL_n (by omega), rw3 _ (by omega) (by omega) (by omega)]
    · rw [if_neg c2]
      have h := h.2 c2
      refine ⟨u4, h, FN_tr f3 f4, fun i a b => ?_, ?_, ?_, ?_, ?_, ?_, ?_, ?_, ?_, ?_, ?_⟩
      · rw [g4, uL_n (by omega)]
        exact rw3 i (by omega) (by omega) (by omega)
      · rw [g4, uL_n (by omega)]
        exact rw3 _ (by omega) (by omega) (by omega)
      · rw [g4, uL_n (by omega)]
        exact rw3 _ (by omega) (by omega) (by omega)
      · rw [g4, uL_n (by omega)]
        exact rw3 _ (by omega) (by omega) (by omega)
      · rw [g4, uL_e, t32_64]
      · rw [g4, uL_n (by omega), v2, t32_64]
      · rw [g4, uL_n (by omega), rw3 _ (by omega) (by omega) (by omega)]
      · rw [g4, uL_n (by omega), v5, t32_64]
      · rw [g4, uL_n (by omega), rw3 _ (by omega) (by omega) (by omega), Int32.add_zero]
      · rw [g4, uL_n (by omega)]
        exact v6
      · rw [g4, uL_n (by omega), rw3 _ (by omega) (by omega) (by omega), z64, Int64.add_zero]
  · have h := e7_of (i := 4) h0 (by omega) rfl (by decide) (h.2 c)
    rw [rw3 _ (by omega) (by omega) (by omega)] at h
    obtain ⟨u4, h, f4, g4⟩ := e7_sets (i := 4) h0 (by omega) rfl (by decide) h
    unfold SR ST
    rw [if_neg c]
    refine ⟨u4, h, FN_tr f3 f4, fun i a b => ?_, ?_, ?_, ?_, ?_, ?_, ?_, ?_, ?_, ?_, ?_⟩
    · rw [g4, uL_n (by omega)]
      exact rw3 i (by omega) (by omega) (by omega)
    · rw [g4, uL_n (by omega)]
      exact rw3 _ (by omega) (by omega) (by omega)
    · rw [g4, uL_n (by omega)]
      exact rw3 _ (by omega) (by omega) (by omega)
    · rw [g4, uL_n (by omega)]
      exact rw3 _ (by omega) (by omega) (by omega)
    · rw [g4, uL_n (by omega), rw3 _ (by omega) (by omega) (by omega)]
    · rw [g4, uL_n (by omega), v2, t32_64]
    · rw [g4, uL_e, t32_64]
    · rw [g4, uL_n (by omega), v5, t32_64]
    · rw [g4, uL_n (by omega), rw3 _ (by omega) (by omega) (by omega), Int32.add_zero]
    · rw [g4, uL_n (by omega)]
      exact v6
    · rw [g4, uL_n (by omega), rw3 _ (by omega) (by omega) (by omega), z64, Int64.add_zero]

/-! Who turns: both choose one by one, those with most left first, of like ones the lesser number. -/
/-- before: more left, or as much and a lesser number -/
def bf (L : Nat → Int) (c d : Nat) : Prop := L d < L c ∨ (L c = L d ∧ c ≤ d)
def NX (n : Nat) (L : Nat → Int) (A : Nat → Bool) (c : Nat) : Prop := c < n ∧ 0 < L c ∧ A c = false ∧ ∀ d, d < n → 0 < L d → A d = false → bf L c d
theorem NX_u {n : Nat} {L : Nat → Int} {A : Nat → Bool} {c d : Nat} (h : NX n L A c) (k : NX n L A d) : c = d := by
  have a := h.2.2.2 d k.1 k.2.1 k.2.2.1
  have b := k.2.2.2 c h.1 h.2.1 h.2.2.1
  unfold bf at a b
  omega
def ad (A : Nat → Bool) (c : Nat) : Nat → Bool := fun i => A i || decide (i = c)
def PR (n : Nat) (L : Nat → Int) (C : Nat → Int) (lim : Int) : Nat → (Nat → Bool) → (Nat → Bool) → Nat → Int → Prop
  | 0, A, T, m, u => A = (fun _ => false) ∧ T = (fun _ => false) ∧ m = 0 ∧ u = 0
  | k + 1, A', T', m', u' => ∃ A T m u c, PR n L C lim k A T m u ∧ NX n L A c ∧ A' = ad A c ∧ ((u + C c ≤ lim ∧ T' = ad T c ∧ m' = m + 1 ∧ u' = u + C c) ∨ (lim < u + C c ∧ T' = T ∧ m' = m ∧ u' = u))
theorem PR_nil {n : Nat} {L C : Nat → Int} {lim : Int} : PR n L C lim 0 (fun _ => false) (fun _ => false) 0 0 := ⟨rfl, rfl, rfl, rfl⟩
theorem PR_take {n : Nat} {L C : Nat → Int} {lim : Int} {k : Nat} {A T : Nat → Bool} {m : Nat} {u : Int} {c : Nat} (h : PR n L C lim k A T m u) (b : NX n L A c) (g : u + C c ≤ lim) : PR n L C lim (k + 1) (ad A c) (ad T c) (m + 1) (u + C c) := ⟨A, T, m, u, c, h, b, rfl, Or.inl ⟨g, rfl, rfl, rfl⟩⟩
theorem PR_skip {n : Nat} {L C : Nat → Int} {lim : Int} {k : Nat} {A T : Nat → Bool} {m : Nat} {u : Int} {c : Nat} (h : PR n L C lim k A T m u) (b : NX n L A c) (g : lim < u + C c) : PR n L C lim (k + 1) (ad A c) T m u := ⟨A, T, m, u, c, h, b, rfl, Or.inr ⟨g, rfl, rfl, rfl⟩⟩
theorem PR_u {n : Nat} {L C : Nat → Int} {lim : Int} : ∀ (k : Nat) {A A' T T' : Nat → Bool} {m m' : Nat} {u u' : Int}, PR n L C lim k A T m u → PR n L C lim k A' T' m' u' → A = A' ∧ T = T' ∧ m = m' ∧ u = u' := by
  intro k
  induction k with
  | zero =>
    intro A A' T T' m m' u u' h h'
    exact ⟨h.1.trans h'.1.symm, h.2.1.trans h'.2.1.symm, h.2.2.1.trans h'.2.2.1.symm, h.2.2.2.trans h'.2.2.2.symm⟩
  | succ k ih =>
    intro A A' T T' m m' u u' h h'
    obtain ⟨A1, T1, m1, u1, c1, a1, b1, e1, g1⟩ := h
    obtain ⟨A2, T2, m2, u2, c2, a2, b2, e2, g2⟩ := h'
    obtain ⟨rfl, rfl, rfl, rfl⟩ := ih a1 a2
    have ec := NX_u b1 b2
    subst ec
    rcases g1 with ⟨p1, p2, p3, p4⟩ | ⟨p1, p2, p3, p4⟩
    · rcases g2 with ⟨q1, q2, q3, q4⟩ | ⟨q1, q2, q3, q4⟩
      · exact ⟨e1.trans e2.symm, p2.trans q2.symm, p3.trans q3.symm, p4.trans q4.symm⟩
      · omega
    · rcases g2 with ⟨q1, q2, q3, q4⟩ | ⟨q1, q2, q3, q4⟩
      · omega
      · exact ⟨e1.trans e2.symm, p2.trans q2.symm, p3.trans q3.symm, p4.trans q4.symm⟩
/-- nobody is left to be asked, or nothing more can turn -/
def CP (n : Nat) (L : Nat → Int) (lim : Int) (A : Nat → Bool) (u : Int) : Prop := (∀ c, c < n → 0 < L c → A c = true) ∨ lim ≤ u
theorem PR_x {n : Nat} {L C : Nat → Int} {lim : Int} (hC : ∀ c, c < n → 1 ≤ C c) {k : Nat} {A T : Nat → Bool} {m : Nat} {u : Int} (h : PR n L C lim k A T m u) (hc : CP n L lim A u) : ∀ (d : Nat) {A' T' : Nat → Bool} {m' : Nat} {u' : Int}, PR n L C lim (k + d) A' T' m' u' → T = T' ∧ m = m' ∧ u = u' ∧ CP n L lim A' u' := by
  intro d
  induction d with
  | zero =>
    intro A' T' m' u' h'
    obtain ⟨rfl, rfl, rfl, rfl⟩ := PR_u k h h'
    exact ⟨rfl, rfl, rfl, hc⟩
  | succ d ih =>
    intro A' T' m' u' h'
    have h' : PR n L C lim ((k + d) + 1) A' T' m' u' := h'
    obtain ⟨A1, T1, m1, u1, c, a, b, e, g0⟩ := h'
    obtain ⟨rfl, rfl, rfl, g⟩ := ih a
    rcases g0 with ⟨p1, p2, p3, p4⟩ | ⟨p1, p2, p3, p4⟩
    · exfalso
      rcases g with g | g
      · have := g _ b.1 b.2.1
        rw [b.2.2.1] at this
        cases this
      · have := hC _ b.1
        omega
    · refine ⟨p2.symm, p3.symm, p4.symm, ?_⟩
      rcases g with g | g
      · exfalso
        have := g _ b.1 b.2.1
        rw [b.2.2.1] at this
        cases this
      · exact Or.inr (by omega)
theorem PR_f {n : Nat} {L C : Nat → Int} {lim : Int} (hC : ∀ c, c < n → 1 ≤ C c) {k k' : Nat} {A A' T T' : Nat → Bool} {m m' : Nat} {u u' : Int} (h : PR n L C lim k A T m u) (hc : CP n L lim A u) (h' : PR n L C lim k' A' T' m' u') (hc' : CP n L lim A' u') : T = T' ∧ m = m' ∧ u = u' := by
  rcases Nat.le_total k k' with g | g
  · obtain ⟨d, rfl⟩ := Nat.exists_eq_add_of_le g
    have q := PR_x hC h hc d h'
    exact ⟨q.1, q.2.1, q.2.2.1⟩
  · obtain ⟨d, rfl⟩ := Nat.exists_eq_add_of_le g
    have q := PR_x hC h' hc' d h
    exact ⟨q.1.symm, q.2.1.symm, q.2.2.1.symm⟩
/-- bounds: as many as were asked, and the current is under the limit -/
theorem PR_b {n : Nat} {L C : Nat → Int} {lim : Int} (hl : 0 ≤ lim) : ∀ {k : Nat} {A T : Nat → Bool} {m : Nat} {u : Int}, PR n L C lim k A T m u → u ≤ lim ∧ (∀ i, T i = true → A i = true) ∧ (∀ i, A i = true → i < n ∧ 0 < L i) := by
  intro k
  induction k with
  | zero =>
    intro A T m u h
    obtain ⟨e1, e2, e3, e4⟩ := h
    refine ⟨by omega, fun i hi => ?_, fun i hi => ?_⟩
    · rw [e2] at hi
      cases hi
    · rw [e1] at hi
      cases hi
  | succ k ih =>
    intro A T m u h
    obtain ⟨A1, T1, m1, u1, c, a, b, e, g⟩ := h
    obtain ⟨i1, i2, i3⟩ := ih a
    have hA : ∀ i, A i = true → i < n ∧ 0 < L i := fun i hi => by
      rw [e] at hi
      unfold ad at hi
      rcases Bool.or_eq_true_iff.mp hi with g | g
      · exact i3 i g
      · have := of_decide_eq_true g
        subst this
        exact ⟨b.1, b.2.1⟩
    rcases g with ⟨p1, p2, p3, p4⟩ | ⟨p1, p2, p3, p4⟩
    · refine ⟨by omega, fun i hi => ?_, hA⟩
      rw [p2] at hi
      rw [e]
      unfold ad at hi ⊢
      rcases Bool.or_eq_true_iff.mp hi with g | g
      · rw [i2 i g]
        rfl
      · rw [g, Bool.or_true]
    · refine ⟨by omega, fun i hi => ?_, hA⟩
      rw [p2] at hi
      rw [e]
      unfold ad
      rw [i2 i hi]
      rfl

/-! How much is left, which current; how many were asked. -/
def LE (f : Nat → Int64) (c : Nat) : Int := if c_f f c 2 ≤ c_f f c 3 then c_f f c 3 - c_f f c 2 else c_f f c 3 - c_f f c 2 + flF f c
def CU (f : Nat → Int64) (c : Nat) : Int := (f (8 + 42 * (c_f f c 0).toNat)).toInt
theorem c32 {f : Nat → Int64} {R W D : Int} {c j : Nat} (hf : rw_ok R W D f) (hD : 0 < D) (hc : (c : Int) < R * W) (hj : j < 5) : (Int64.toInt32 (f (176 + 8 * c + j))).toInt = c_f f c j := by
  obtain ⟨q0, q1, q2, q3, q4, q5⟩ := cl_f hf hD hc
  have r := (hf.2.2.2.2.2.2.2 c q0.1).1
  have z : (f (176 + 8 * c + j)).toInt = c_f f c j := rfl
  have k := q1.2
  rcases (show j = 0 ∨ j = 1 ∨ j = 2 ∨ j = 3 ∨ j = 4 by omega) with rfl | rfl | rfl | rfl | rfl
  · rw [t32 (by omega)]
    exact z
  · rw [t32 (by omega)]
    exact z
  · rw [t32 (by omega)]
    exact z
  · rw [t32 (by omega)]
    exact z
  · rw [t32 (by omega)]
    exact z
theorem LE_b {f : Nat → Int64} {R W D : Int} {c : Nat} (hf : rw_ok R W D f) (hD : 0 < D) (hc : (c : Int) < R * W) : 0 ≤ LE f c ∧ LE f c ≤ 39 := by
  obtain ⟨q0, q1, q2, q3, q4, q5⟩ := cl_f hf hD hc
  have e : flF f c = d_f f (c_f f c 0).toNat := rfl
  unfold LE
  by_cases g : c_f f c 2 ≤ c_f f c 3
  · rw [if_pos g]
    omega
  · rw [if_neg g]
    omega
theorem e0_leftOf {P : Int32 → Prop} {s : Bd} {f : Nat → Int64} {x : Int32} {R W D : Int} (hf : rw_ok R W D f) (hD : 0 < D) (hB : RB s f) (h0 : 0 ≤ x.toInt) (h1 : x.toInt < R * W) (h : wp_X0_leftOf P s x) : ∃ r, P r ∧ r.toInt = LE f x.toInt.toNat := by
  have e0 : (0 : Int32).toInt = 0 := rfl
  obtain ⟨q0, q1, q2, q3, q4, q5⟩ := cl_f (c := x.toInt.toNat) hf hD (by omega)
  have rc := RB_cells hf hB
  have at_ := RB_x (c := x.toInt.toNat) hf hB (by omega)
  have c2 := c32 (j := 2) hf hD (c := x.toInt.toNat) (by omega) (by decide)
  have c3 := c32 (j := 3) hf hD (c := x.toInt.toNat) (by omega) (by decide)
  have c0 := c32 (j := 0) hf hD (c := x.toInt.toNat) (by omega) (by decide)
  unfold wp_X0_leftOf at h
  have h := h.2.2.2
  rw [tn_i, at_.1, at_.2.2.1, at_.2.2.2.1] at h
  have s1 := nw (tq_sub (Int64.toInt32 (f (176 + 8 * x.toInt.toNat + 3))) (Int64.toInt32 (f (176 + 8 * x.toInt.toNat + 2)))) (by omega)
  unfold LE
  by_cases c : 0 ≤ Int64.toInt32 (f (176 + 8 * x.toInt.toNat + 3)) - Int64.toInt32 (f (176 + 8 * x.toInt.toNat + 2))
  · have := q_le c
    exact ⟨_, h.1 c, by rw [if_pos (by omega)]; omega⟩
  · have := q_nle c
    have h := (h.2 c).2 (fun g => by have := q_lt g; omega)
    have h := (h.2 (fun g => by have := q_le g; omega)).2
    have td : Int32.toNatClampNeg (Int64.toInt32 (f (176 + 8 * x.toInt.toNat + 0))) = (c_f f x.toInt.toNat 0).toNat := by rw [tn_i, c0]
    rw [td] at h
    have k := RB_fl (d := (c_f f x.toInt.toNat 0).toNat) hf hB (by omega)
    have e : flF f x.toInt.toNat = d_f f (c_f f x.toInt.toNat 0).toNat := rfl
    have s2 := nw (tq_add (Int64.toInt32 (f (176 + 8 * x.toInt.toNat + 3)) - Int64.toInt32 (f (176 + 8 * x.toInt.toNat + 2))) (s.2.1 1 (c_f f x.toInt.toNat 0).toNat)) (by omega)
    exact ⟨_, h, by rw [if_neg (by omega)]; omega⟩
theorem e7_leftOf {P : Int32 → Prop} {s : Md} {x : Int32} {R W D : Int} (hf : rw_ok R W D (s.2.2.1 0)) (hD : 0 < D) (h0 : 0 ≤ x.toInt) (h1 : x.toInt < R * W) (h : wp_X7_leftOf P s x) : ∃ r, P r ∧ r.toInt = LE (s.2.2.1 0) x.toInt.toNat := by
  obtain ⟨q0, q1, q2, q3, q4, q5⟩ := cl_f (c := x.toInt.toNat) hf hD (by omega)
  have c2 := c32 (j := 2) hf hD (c := x.toInt.toNat) (by omega) (by decide)
  have c3 := c32 (j := 3) hf hD (c := x.toInt.toNat) (by omega) (by decide)
  unfold wp_X7_leftOf at h
  have h := e7_of (i := 2) h0 (by omega) rfl (by decide) h
  have h := e7_of (i := 3) h0 (by omega) rfl (by decide) h
  obtain ⟨F, h, eF, _⟩ := e7_flF hf hD h0 h1 h
  have e : flF (s.2.2.1 0) x.toInt.toNat = d_f (s.2.2.1 0) (c_f (s.2.2.1 0) x.toInt.toNat 0).toNat := rfl
  obtain ⟨r, h, g⟩ := e7_on (by omega) (by omega) (by omega) h
  refine ⟨r, h, ?_⟩
  unfold LE
  rcases g with ⟨g1, g2⟩ | ⟨g1, g2⟩
  · rw [if_pos (by omega)]
    omega
  · rw [if_neg (by omega)]
    omega
theorem CU_b {s : Bd} {f : Nat → Int64} {R W D : Int} {c : Nat} (hf : rw_ok R W D f) (hD : 0 < D) (hB : RB s f) (hc : (c : Int) < R * W) : 1 ≤ CU f c ∧ CU f c ≤ 9 ∧ (s.2.1 0 (c_f f c 0).toNat).toInt = CU f c := by
  obtain ⟨q0, q1, q2, q3, q4, q5⟩ := cl_f hf hD hc
  have q := hB.2.1.2 (c_f f c 0).toNat (by rw [hf.2.2.1]; omega)
  unfold CU
  refine ⟨q.1.2.1, q.1.2.2.1, ?_⟩
  have q7 := q.1.2.1
  have q8 := q.1.2.2.1
  rw [q.2.1, t32 (by omega)]
theorem e0_currentOf {P : Int32 → Prop} {s : Bd} {f : Nat → Int64} {x : Int32} {R W D : Int} (hf : rw_ok R W D f) (hD : 0 < D) (hB : RB s f) (h0 : 0 ≤ x.toInt) (h1 : x.toInt < R * W) (h : wp_X0_currentOf P s x) : ∃ r, P r ∧ r.toInt = CU f x.toInt.toNat := by
  have e0 : (0 : Int32).toInt = 0 := rfl
  obtain ⟨q0, q1, q2, q3, q4, q5⟩ := cl_f (c := x.toInt.toNat) hf hD (by omega)
  have rc := RB_cells hf hB
  have at_ := RB_x (c := x.toInt.toNat) hf hB (by omega)
  have c0 := c32 (j := 0) hf hD (c := x.toInt.toNat) (by omega) (by decide)
  unfold wp_X0_currentOf at h
  have h := h.2
  rw [tn_i, at_.1] at h
  have h := h.2 (fun g => by have := q_lt g; omega)
  have h := (h.2 (fun g => by have := q_le g; omega)).2
  have td : Int32.toNatClampNeg (Int64.toInt32 (f (176 + 8 * x.toInt.toNat + 0))) = (c_f f x.toInt.toNat 0).toNat := by rw [tn_i, c0]
  rw [td] at h
  exact ⟨_, h, (CU_b hf hD hB (by omega)).2.2⟩
theorem e7_current {P : Int32 → Prop} {s : Md} {b : Bd} {x : Int32} {R W D : Int} (hf : rw_ok R W D (s.2.2.1 0)) (hD : 0 < D) (hB : RB b (s.2.2.1 0)) (h0 : 0 ≤ x.toInt) (h1 : x.toInt < R * W) (h : wp_X7_current P s x) : ∃ r, P r ∧ r.toInt = CU (s.2.2.1 0) x.toInt.toNat := by
  obtain ⟨q0, q1, q2, q3, q4, q5⟩ := cl_f (c := x.toInt.toNat) hf hD (by omega)
  have c0 := c32 (j := 0) hf hD (c := x.toInt.toNat) (by omega) (by decide)
  have e42 : (42 : Int32).toInt = 42 := rfl
  have e8 : (8 : Int32).toInt = 8 := rfl
  unfold wp_X7_current wp_X7_currentOf at h
  have h := e7_of (i := 0) h0 (by omega) rfl (by decide) h
  have a1 := nw (tq_mulc e42 (Int64.toInt32 (s.2.2.1 0 (176 + 8 * x.toInt.toNat + 0)))) (by omega)
  have a2 := nw (tq_addc e8 (42 * Int64.toInt32 (s.2.2.1 0 (176 + 8 * x.toInt.toNat + 0)))) (by omega)
  have td : Int32.toNatClampNeg (8 + 42 * Int64.toInt32 (s.2.2.1 0 (176 + 8 * x.toInt.toNat + 0))) = 8 + 42 * (c_f (s.2.2.1 0) x.toInt.toNat 0).toNat := by rw [tn_i]; omega
  rw [td] at h
  refine ⟨_, h.2, ?_⟩
  have k := CU_b hf hD hB (c := x.toInt.toNat) (by omega)
  unfold CU at k ⊢
  rw [t32 (by omega)]
/-! how many -/
def ct (A : Nat → Bool) : Nat → Nat
  | 0 => 0
  | n + 1 => ct A n + (if A n = true then 1 else 0)
theorem ct_le (A : Nat → Bool) : ∀ n, ct A n ≤ n := by
  intro n
  induction n with
  | zero => exact Nat.le_refl _
  | succ n ih =>
    unfold ct
    by_cases c : A n = true
    · rw [if_pos c]
      omega
    · rw [if_neg c]
      omega
theorem ct_all {A : Nat → Bool} : ∀ n, ct A n = n → ∀ i, i < n → A i = true := by
  intro n
  induction n with
  | zero =>
    intro _ i hi
    omega
  | succ n ih =>
    intro h i hi
    unfold ct at h
    have l := ct_le A n
    by_cases c : A n = true
    · rw [if_pos c] at h
      by_cases e : i = n
      · rw [e]
        exact c
      · exact ih (by omega) i (by omega)
    · rw [if_neg c] at h
      omega
theorem ct_ad {A : Nat → Bool} {c : Nat} (hc : A c = false) : ∀ n, ct (ad A c) n = ct A n + (if c < n then 1 else 0) := by
  intro n
  induction n with
  | zero => rfl
  | succ n ih =>
    unfold ct
    rw [ih]
    by_cases e : n = c
    · subst e
      have a : ad A n n = true := by unfold ad; rw [decide_eq_true rfl, Bool.or_true]
      rw [if_neg (Nat.lt_irrefl n), if_pos a, if_neg (show ¬ A n = true by rw [hc]; decide), if_pos (Nat.lt_succ_self n)]
    · have a : ad A c n = A n := by unfold ad; rw [decide_eq_false e, Bool.or_false]
      rw [a]
      by_cases g : c < n
      · rw [if_pos g, if_pos (show c < n + 1 by omega)]
        omega
      · rw [if_neg g, if_neg (show ¬ c < n + 1 by omega)]
        omega
theorem PR_ct {n : Nat} {L C : Nat → Int} {lim : Int} : ∀ {k : Nat} {A T : Nat → Bool} {m : Nat} {u : Int}, PR n L C lim k A T m u → ct A n = k ∧ ct T n = m ∧ (∀ i, T i = true → A i = true) := by
  intro k
  induction k with
  | zero =>
    intro A T m u h
    obtain ⟨e1, e2, e3, e4⟩ := h
    have z : ∀ n, ct (fun _ => false) n = 0 := by
      intro n
      induction n with
      | zero => rfl
      | succ n ih =>
        unfold ct
        rw [ih]
        rfl
    rw [e1, e2, e3]
    exact ⟨z n, z n, fun i h => h⟩
  | succ k ih =>
    intro A T m u h
    obtain ⟨A1, T1, m1, u1, d, a, b, e, g⟩ := h
    have i := ih a
    rcases g with ⟨p1, p2, p3, p4⟩ | ⟨p1, p2, p3, p4⟩
    · have tf : T1 d = false := by
        cases e : T1 d with
        | false => rfl
        | true =>
          have g := b.2.2.1
          rw [i.2.2 d e] at g
          cases g
      rw [e, p2, p3]
      refine ⟨by rw [ct_ad b.2.2.1, if_pos b.1, i.1], by rw [ct_ad tf, if_pos b.1, i.2.1], fun j hi => ?_⟩
      unfold ad at hi ⊢
      rcases Bool.or_eq_true_iff.mp hi with g | g
      · rw [i.2.2 j g]
        rfl
      · rw [g, Bool.or_true]
    · rw [e, p2, p3]
      refine ⟨by rw [ct_ad b.2.2.1, if_pos b.1, i.1], i.2.1, fun j hi => ?_⟩
      unfold ad
      rw [i.2.2 j hi]
      rfl

/-! The reference's choice is the greedy one. -/
def BI (L : Nat → Int) (A : Nat → Bool) (z4 z5 : Int32) : Prop := (z4 = -1 ∧ ∀ c : Nat, (c : Int) < z5.toInt → 0 < L c → A c = true) ∨ (0 ≤ z4.toInt ∧ z4.toInt < z5.toInt ∧ 0 < L z4.toInt.toNat ∧ A z4.toInt.toNat = false ∧ ∀ d : Nat, (d : Int) < z5.toInt → 0 < L d → A d = false → bf L z4.toInt.toNat d)
theorem e7_best_L {R W D : Int} {s : Md} {w : Int64} {z3 : Int32} {p7 : Md → Prop} {e7 : Md → Int64 → Int32 → Int32 → Int32 → Prop} (hf : rw_ok R W D (s.2.2.1 0)) (hD : 0 < D) : ∀ (n : Nat) (z4 z5 : Int32), 0 ≤ z5.toInt → z5.toInt ≤ R * W → BI (LE (s.2.2.1 0)) (bs_at w) z4 z5 → wp_X7_findsTurning_L33 p7 e7 n s w z3 z4 z5 → ∃ z4' z5', e7 s w z3 z4' z5' ∧ ((z4' = -1 ∧ ∀ c : Nat, (c : Int) < R * W → 0 < LE (s.2.2.1 0) c → bs_at w c = true) ∨ (0 ≤ z4'.toInt ∧ NX (R * W).toNat (LE (s.2.2.1 0)) (bs_at w) z4'.toInt.toNat)) := by
  have hR := hf.2.2.2.2.2.1
  have rn := rw_n hf
  have e1 : (1 : Int32).toInt = 1 := rfl
  have e0 : (0 : Int32).toInt = 0 := rfl
  have em : (-1 : Int32).toInt = -1 := rfl
  intro n
  induction n with
  | zero =>
    intro z4 z5 _ _ _ h
    exact (show False from h).elim
  | succ n ih =>
    intro z4 z5 h0 h1 hI h
    unfold wp_X7_findsTurning_L33 at h
    have h := cells7_e h
    by_cases c : Int64.toInt32 (s.2.2.1 0 0) * Int64.toInt32 (s.2.2.1 0 1) ≤ z5
    · have := q_le c
      have ez : z5.toInt = R * W := by omega
      refine ⟨z4, z5, h.1 c, ?_⟩
      rcases hI with ⟨a, b⟩ | ⟨a1, a2, a3, a4, a5⟩
      · exact Or.inl ⟨a, fun k hk => b k (by omega)⟩
      · exact Or.inr ⟨a1, by omega, a3, a4, fun d hd => a5 d (by omega)⟩
    · have c1 := q_nle c
      have a := nw (tq_addr e1 z5) (by omega)
      have kz : ∀ k : Nat, (k : Int) < (z5 + 1).toInt → ¬ k = z5.toInt.toNat → (k : Int) < z5.toInt := fun k h g => by omega
      rcases e7_isIn (by omega) (h.2 c) with ⟨h, b⟩ | ⟨h, b⟩
      · refine ih z4 (z5 + 1) (by omega) (by omega) ?_ (h.1 (by decide))
        rcases hI with ⟨a, k⟩ | ⟨a1, a2, a3, a4, a5⟩
        · refine Or.inl ⟨a, fun i hi hl => ?_⟩
          by_cases g : i = z5.toInt.toNat
          · rw [g]
            exact b
          · exact k i (kz i hi g) hl
        · refine Or.inr ⟨a1, by omega, a3, a4, fun i hi hl ha => ?_⟩
          by_cases g : i = z5.toInt.toNat
          · rw [g, b] at ha
            cases ha
          · exact a5 i (kz i hi g) hl ha
      · obtain ⟨r, h, er⟩ := e7_leftOf hf hD h0 (by omega) (h.2 rfl)
        by_cases c2 : r ≤ 0
        · have := q_le c2
          refine ih z4 (z5 + 1) (by omega) (by omega) ?_ (h.1 c2)
          rcases hI with ⟨a, k⟩ | ⟨a1, a2, a3, a4, a5⟩
          · refine Or.inl ⟨a, fun i hi hl => ?_⟩
            by_cases g : i = z5.toInt.toNat
            · rw [g] at hl
              omega
            · exact k i (kz i hi g) hl
          · refine Or.inr ⟨a1, by omega, a3, a4, fun i hi hl ha => ?_⟩
            by_cases g : i = z5.toInt.toNat
            · rw [g] at hl
              omega
            · exact a5 i (kz i hi g) hl ha
        · have := q_nle c2
          have h := h.2 c2
          by_cases c3 : z4 = -1
          · refine ih z5 (z5 + 1) (by omega) (by omega) ?_ (h.1 c3)
            rcases hI with ⟨a, k⟩ | ⟨a1, _⟩
            · refine Or.inr ⟨h0, by omega, by omega, b, fun i hi hl ha => ?_⟩
              by_cases g : i = z5.toInt.toNat
              · rw [g]
                exact Or.inr ⟨rfl, Nat.le_refl _⟩
              · rw [k i (kz i hi g) hl] at ha
                cases ha
            · rw [c3, em] at a1
              omega
          · rcases hI with ⟨a, _⟩ | ⟨a1, a2, a3, a4, a5⟩
            · exact (c3 a).elim
            · obtain ⟨r1, h, er1⟩ := e7_leftOf hf hD h0 (by omega) (h.2 c3)
              obtain ⟨r2, h, er2⟩ := e7_leftOf hf hD a1 (by omega) h
              by_cases c4 : r1 ≤ r2
              · have := q_le c4
                refine ih z4 (z5 + 1) (by omega) (by omega) (Or.inr ⟨a1, by omega, a3, a4, fun i hi hl ha => ?_⟩) (h.1 c4)
                by_cases g : i = z5.toInt.toNat
                · rw [g]
                  unfold bf
                  omega
                · exact a5 i (kz i hi g) hl ha
              · have := q_nle c4
                refine ih z5 (z5 + 1) (by omega) (by omega) (Or.inr ⟨h0, by omega, by omega, b, fun i hi hl ha => ?_⟩) (h.2 c4)
                by_cases g : i = z5.toInt.toNat
                · rw [g]
                  exact Or.inr ⟨rfl, Nat.le_refl _⟩
                · have k := a5 i (kz i hi g) hl ha
                  unfold bf at k ⊢
                  omega
theorem lim_c {t c : Int32} {y : Int64} (h1 : -1000 ≤ t.toInt ∧ t.toInt ≤ 1000) (h2 : -1000 ≤ c.toInt ∧ c.toInt ≤ 1000) : (lg_cmp (Int32.toInt64 (t + c)) y ≤ 0) ↔ t.toInt + c.toInt ≤ y.toInt := by
  have a := nw (tq_add t c) (by omega)
  have b := tq_64 (t + c)
  rw [lg_cmp_le, Int64.le_iff_toInt_le, b, a]
def FD (f : Nat → Int64) (R W : Int) (v : Md) : Prop := 0 ≤ (v.1 1).toInt ∧ ∃ k A, PR (R * W).toNat (LE f) (CU f) (f 2).toInt k A (bs_at v.2.1) (v.1 1).toInt.toNat (v.1 2).toInt ∧ CP (R * W).toNat (LE f) (f 2).toInt A (v.1 2).toInt
theorem bs_ad {y : Int64} {z : Int32} (hz : 0 ≤ z.toInt ∧ z.toInt < 40) : bs_at (y ||| ((1 : Int64) <<< (Int32.toInt64 z &&& 63))) = ad (bs_at y) z.toInt.toNat := by
  funext k
  rw [bs_or hz]
  unfold ad
  by_cases e : k = z.toInt.toNat
  · rw [decide_eq_true e, decide_eq_true e.symm]
  · rw [decide_eq_false e, decide_eq_false (fun g => e g.symm)]
theorem e7_finds_L {f : Nat → Int64} {b : Bd} {R W D : Int} {p7 : Md → Prop} (hf : rw_ok R W D f) (hD : 0 < D) (hB : RB b f) : ∀ (n : Nat) (s : Md) (w : Int64) (z : Int32), s.2.2.1 0 = f → 0 ≤ z.toInt → z.toInt ≤ R * W → 0 ≤ (s.1 1).toInt → (s.1 1).toInt ≤ z.toInt → 0 ≤ (s.1 2).toInt → PR (R * W).toNat (LE f) (CU f) (f 2).toInt z.toInt.toNat (bs_at w) (bs_at s.2.1) (s.1 1).toInt.toNat (s.1 2).toInt → wp_X7_findsTurning_L19 p7 (fun t0 w1 z3 => p7 t0) n s w z → ∃ v, p7 v ∧ ie [1, 2] v.1 s.1 ∧ v.2.2.1 = s.2.2.1 ∧ v.2.2.2 = s.2.2.2 ∧ FD f R W v := by
  have hR := hf.2.2.2.2.2.1
  have hL := hf.2.2.2.2.1
  have rn := rw_n hf
  have e1 : (1 : Int32).toInt = 1 := rfl
  have em : (-1 : Int32).toInt = -1 := rfl
  have t2 : Int32.toNatClampNeg 2 = 2 := rfl
  intro n
  induction n with
  | zero =>
    intro s w z _ _ _ _ _ _ _ h
    exact (show False from h).elim
  | succ n ih =>
    intro s w z hs h0 h1 m0 m1 u0 hp h
    have pb := PR_b (by omega) hp
    unfold wp_X7_findsTurning_L19 at h
    have h := cells7_e h
    rw [hs] at h
    by_cases c : Int64.toInt32 (f 0) * Int64.toInt32 (f 1) ≤ z
    · have := q_le c
      refine ⟨s, h.1 c, ie_refl _ _, rfl, rfl, m0, _, _, hp, Or.inl (fun k hk _ => ?_)⟩
      exact ct_all _ ((PR_ct hp).1.trans (by omega)) k hk
    · have c1 := q_nle c
      have a := nw (tq_addr e1 z) (by omega)
      obtain ⟨n3, h⟩ := h.2 c
      obtain ⟨z4, z5, h, g⟩ := e7_best_L (R := R) (W := W) (D := D) (by rw [hs]; exact hf) hD n3 (-1) 0 (by decide) (by show (0 : Int) ≤ _; omega) (Or.inl ⟨rfl, fun c hc => by have : (0 : Int32).toInt = 0 := rfl; omega⟩) h
      rw [hs] at g
      rcases g with ⟨g1, g2⟩ | ⟨g1, g2⟩
      · exact ⟨s, h.2 g1, ie_refl _ _, rfl, rfl, m0, _, _, hp, Or.inl (fun k hk hl => g2 k (by omega) hl)⟩
      · have n1 : ¬ z4 = -1 := fun e => by rw [e, em] at g1; omega
        have hz4 : z4.toInt < R * W := by have := g2.1; omega
        obtain ⟨r, h, er⟩ := e7_current (s := s) (b := b) (by rw [hs]; exact hf) hD (by rw [hs]; exact hB) g1 hz4 (h.1 n1)
        rw [hs] at er
        have cb := CU_b hf hD hB (c := z4.toInt.toNat) (by omega)
        rw [t2, hs] at h
        have lc := lim_c (t := s.1 2) (c := r) (y := f 2) (by omega) (by omega)
        by_cases c2 : lg_cmp (Int32.toInt64 (s.1 2 + r)) (f 2) ≤ 0
        · have k := lc.mp c2
          obtain ⟨r2, h, er2⟩ := e7_current (s := ((va_up s.1 1 ((s.1 1) + 1)), (s.2.1 ||| ((1 : Int64) <<< (Int32.toInt64 z4 &&& 63))), s.2.2.1, s.2.2.2)) (b := b) (by show rw_ok R W D (s.2.2.1 0); rw [hs]; exact hf) hD (by show RB b (s.2.2.1 0); rw [hs]; exact hB) g1 hz4 (h.1 c2)
          have er2 : r2.toInt = CU (s.2.2.1 0) z4.toInt.toNat := er2
          rw [hs] at er2
          have a1 := nw (tq_addr e1 (s.1 1)) (by omega)
          have a2 := nw (tq_add (s.1 2) r2) (by omega)
          obtain ⟨v, p, v1, v2, v3, v4⟩ := ih ((va_up (va_up s.1 1 ((s.1 1) + 1)) 2 ((s.1 2) + r2)), (s.2.1 ||| ((1 : Int64) <<< (Int32.toInt64 z4 &&& 63))), s.2.2.1, s.2.2.2) (w ||| ((1 : Int64) <<< (Int32.toInt64 z4 &&& 63))) (z + 1) hs (by omega) (by omega) (by show 0 ≤ (s.1 1 + 1).toInt; omega) (by show (s.1 1 + 1).toInt ≤ _; omega) (by show 0 ≤ (s.1 2 + r2).toInt; omega) (by
            show PR _ _ _ _ (z + 1).toInt.toNat (bs_at (w ||| _)) (bs_at (s.2.1 ||| _)) (s.1 1 + 1).toInt.toNat (s.1 2 + r2).toInt
            rw [bs_ad (by omega), bs_ad (by omega), a, a1, a2, er2]
            have e3 : (z.toInt + 1).toNat = z.toInt.toNat + 1 := by omega
            have e4 : ((s.1 1).toInt + 1).toNat = (s.1 1).toInt.toNat + 1 := by omega
            rw [e3, e4]
            exact PR_take hp g2 (by omega)) h
          exact ⟨v, p, ie_tr v1 (by decide) (ie_up (ie_up (ie_refl _ _) (by decide)) (by decide)), v2, v3, v4⟩
        · have k : ¬ ((s.1 2).toInt + r.toInt ≤ (f 2).toInt) := fun g => c2 (lc.mpr g)
          refine ih s (w ||| ((1 : Int64) <<< (Int32.toInt64 z4 &&& 63))) (z + 1) hs (by omega) (by omega) m0 (by omega) u0 (by
            rw [bs_ad (by omega), a]
            have e3 : (z.toInt + 1).toNat = z.toInt.toNat + 1 := by omega
            rw [e3]
            exact PR_skip hp g2 (by omega)) (h.2 c2)
theorem e7_finds {P : Md → Prop} {s : Md} {b : Bd} {R W D : Int} (hf : rw_ok R W D (s.2.2.1 0)) (hD : 0 < D) (hB : RB b (s.2.2.1 0)) (h : wp_X7_findsTurning P s) : ∃ v, P v ∧ ie [1, 2] v.1 s.1 ∧ v.2.2.1 = s.2.2.1 ∧ v.2.2.2 = s.2.2.2 ∧ FD (s.2.2.1 0) R W v := by
  have hR := hf.2.2.2.2.2.1
  unfold wp_X7_findsTurning at h
  obtain ⟨n, h⟩ := h
  have z : bs_at 0 = fun _ => false := funext bs_0
  have e0 : (0 : Int32).toInt = 0 := rfl
  obtain ⟨v, p, v1, v2, v3, v4⟩ := e7_finds_L hf hD hB n ((va_up (va_up s.1 1 0) 2 0), 0, s.2.2.1, s.2.2.2) 0 0 rfl (by decide) (by rw [e0]; omega) (by show 0 ≤ (0 : Int32).toInt; decide) (by show (0 : Int32).toInt ≤ (0 : Int32).toInt; decide) (by show 0 ≤ (0 : Int32).toInt; decide) (by
    show PR _ _ _ _ 0 (bs_at 0) (bs_at 0) 0 0
    rw [z]
    exact PR_nil) h
  exact ⟨v, p, ie_tr v1 (by decide) (ie_up (ie_up (ie_refl _ _) (by decide)) (by decide)), v2, v3, v4⟩

/-! The class's chains: of each left the least cell, of each cell the next one with as much left. -/
def MN (n : Nat) (L : Nat → Int) (lo l : Int) (y : Int32) : Prop := (y = -1 ∧ ∀ c : Nat, lo < (c : Int) → c < n → ¬ L c = l) ∨ (lo < y.toInt ∧ 0 ≤ y.toInt ∧ y.toInt < (n : Int) ∧ L y.toInt.toNat = l ∧ ∀ d : Nat, lo < (d : Int) → d < n → L d = l → y.toInt ≤ (d : Int))
theorem MN_dn {n : Nat} {L : Nat → Int} {z : Nat} {l : Int} {y : Int32} (h : MN n L (z : Int) l y) (g : ¬ L z = l) : MN n L ((z : Int) - 1) l y := by
  rcases h with ⟨a, b⟩ | ⟨a1, a2, a3, a4, a5⟩
  · refine Or.inl ⟨a, fun c h1 h2 h3 => ?_⟩
    by_cases e : c = z
    · rw [e] at h3
      exact g h3
    · exact b c (by omega) h2 h3
  · refine Or.inr ⟨by omega, a2, a3, a4, fun d h1 h2 h3 => ?_⟩
    by_cases e : d = z
    · rw [e] at h3
      exact (g h3).elim
    · exact a5 d (by omega) h2 h3
def SRT (n : Nat) (L : Nat → Int) (t : Mo) (z2 : Int32) (z : Int) : Prop := (∀ l : Nat, 1 ≤ l → l < 40 → MN n L z (l : Int) (t.2 0 l)) ∧ (∀ c : Nat, z < (c : Int) → c < n → 0 < L c → MN n L (c : Int) (L c) (t.2 1 c)) ∧ (∀ c : Nat, z < (c : Int) → c < n → L c ≤ z2.toInt) ∧ 0 ≤ z2.toInt ∧ z2.toInt ≤ 39
theorem e2_sort_L {f : Nat → Int64} {b : Bd} {R W D : Int} {p6 : Int32 → Mo → Prop} {e6 : Mo → Int32 → Int32 → Prop} (hf : rw_ok R W D f) (hD : 0 < D) (hB : RB b f) : ∀ (n : Nat) (t : Mo) (z2 z : Int32), -1 ≤ z.toInt → z.toInt < R * W → SRT (R * W).toNat (LE f) t z2 z.toInt → wp_X2_sortByLeft_L17 b p6 e6 n t z2 z → ∃ u z2' z', e6 u z2' z' ∧ u.1 = t.1 ∧ (∀ k, 2 ≤ k → u.2 k = t.2 k) ∧ SRT (R * W).toNat (LE f) u z2' (-1) := by
  have hR := hf.2.2.2.2.2.1
  have e0 : (0 : Int32).toInt = 0 := rfl
  have em : (-1 : Int32).toInt = -1 := rfl
  have e40 : (40 : Int32).toInt = 40 := rfl
  intro n
  induction n with
  | zero =>
    intro t z2 z _ _ _ h
    exact (show False from h).elim
  | succ n ih =>
    intro t z2 z h0 h1 hS h
    unfold wp_X2_sortByLeft_L17 at h
    by_cases c : z < 0
    · have := q_lt c
      have ez : z.toInt = -1 := by omega
      rw [ez] at hS
      exact ⟨t, z2, z, h.1 c, rfl, fun _ _ => rfl, hS⟩
    · have c1 := q_nlt c
      have a := tq_add z (-1)
      rw [em] at a
      have a := nw a (by omega)
      obtain ⟨r, h, er⟩ := e0_leftOf hf hD hB (by omega) h1 (h.2 c)
      have lb := LE_b hf hD (c := z.toInt.toNat) (by omega)
      have zz : ((z.toInt.toNat : Nat) : Int) = z.toInt := by omega
      have za : (z + (-1)).toInt = ((z.toInt.toNat : Nat) : Int) - 1 := by omega
      obtain ⟨s1, s2, s3, s4, s5⟩ := id hS
      rw [← zz] at s1 s2 s3
      by_cases c2 : r ≤ 0
      · have := q_le c2
        refine ih t z2 (z + (-1)) (by omega) (by omega) ⟨fun l l1 l2 => ?_, fun k k1 k2 k3 => ?_, fun k k1 k2 => ?_, s4, s5⟩ (h.1 c2)
        · rw [za]
          exact MN_dn (s1 l l1 l2) (by omega)
        · by_cases e : k = z.toInt.toNat
          · rw [e] at k3
            omega
          · exact s2 k (by omega) k2 k3
        · by_cases e : k = z.toInt.toNat
          · rw [e]
            omega
          · exact s3 k (by omega) k2
      · have := q_nle c2
        have h := ((h.2 c2).2 (fun g => by have := q_le g; omega)).2.2.2
        rw [tn_i, tn_i] at h
        have S : SRT (R * W).toNat (LE f) (t.1, (va_up (va_up t.2 0 (upd (t.2 0) r.toInt.toNat z)) 1 (upd (t.2 1) z.toInt.toNat (t.2 0 r.toInt.toNat)))) (if z2 < r then r else z2) (z + (-1)).toInt := by
          refine ⟨fun l l1 l2 => ?_, fun k k1 k2 k3 => ?_, fun k k1 k2 => ?_, ?_, ?_⟩
          · show MN _ _ _ _ (upd (t.2 0) r.toInt.toNat z l)
            by_cases e : l = r.toInt.toNat
            · rw [e, up_e]
              refine Or.inr ⟨by omega, by omega, by omega, by omega, fun d h1 h2 h3 => by omega⟩
            · rw [up_n e, za]
              exact MN_dn (s1 l l1 l2) (by omega)
          · show MN _ _ _ _ (upd (t.2 1) z.toInt.toNat (t.2 0 r.toInt.toNat) k)
            by_cases e : k = z.toInt.toNat
            · subst e
              rw [up_e]
              have q := s1 r.toInt.toNat (by omega) (by omega)
              have el : ((r.toInt.toNat : Nat) : Int) = LE f z.toInt.toNat := by omega
              rw [el] at q
              exact q
            · rw [up_n e]
              exact s2 k (by omega) k2 k3
          · by_cases e : k = z.toInt.toNat
            · rw [e]
              by_cases g : z2 < r
              · rw [if_pos g]
                omega
              · have := q_nlt g
                rw [if_neg g]
                omega
            · have := s3 k (by omega) k2
              by_cases g : z2 < r
              · have := q_lt g
                rw [if_pos g]
                omega
              · rw [if_neg g]
                exact this
          · by_cases g : z2 < r
            · rw [if_pos g]
              omega
            · rw [if_neg g]
              exact s4
          · by_cases g : z2 < r
            · rw [if_pos g]
              omega
            · rw [if_neg g]
              exact s5
        obtain ⟨u, z2', z', g1, g2, g3, g4⟩ := ih (t.1, (va_up (va_up t.2 0 (upd (t.2 0) r.toInt.toNat z)) 1 (upd (t.2 1) z.toInt.toNat (t.2 0 r.toInt.toNat)))) (if z2 < r then r else z2) (z + (-1)) (by omega) (by omega) S h
        exact ⟨u, z2', z', g1, g2, fun k hk => (g3 k hk).trans (by
          show va_up _ 1 _ k = _
          rw [va_n (by omega), va_n (by omega)]), g4⟩
theorem e2_sort {P : Int32 → Mo → Prop} {f : Nat → Int64} {b : Bd} {t : Mo} {R W D : Int} (hf : rw_ok R W D f) (hD : 0 < D) (hB : RB b f) (h : wp_X2_sortByLeft P t b) : ∃ r u, P r u ∧ u.1 = t.1 ∧ (∀ k, 2 ≤ k → u.2 k = t.2 k) ∧ SRT (R * W).toNat (LE f) u r (-1) := by
  have hR := hf.2.2.2.2.2.1
  have rc := RB_cells hf hB
  have e1 : (1 : Int32).toInt = 1 := rfl
  have e0 : (0 : Int32).toInt = 0 := rfl
  unfold wp_X2_sortByLeft at h
  have h := cells6_e h
  obtain ⟨n, h⟩ := h
  have a := nw (tq_subr e1 (b.1 0 * b.1 1)) (by omega)
  have S : SRT (R * W).toNat (LE f) (t.1, (va_up t.2 0 (fl_f 40 (-1) (t.2 0)))) 0 (b.1 0 * b.1 1 - 1).toInt := by
    refine ⟨fun l l1 l2 => ?_, fun c c1 c2 _ => ?_, fun c c1 c2 => ?_, by decide, by decide⟩
    · refine Or.inl ⟨?_, fun c c1 c2 => by omega⟩
      show fl_f 40 (-1) (t.2 0) l = -1
      unfold fl_f
      rw [if_pos l2]
    · omega
    · omega
  obtain ⟨u, z2, z, g1, g2, g3, g4⟩ := e2_sort_L hf hD hB n (t.1, (va_up t.2 0 (fl_f 40 (-1) (t.2 0)))) 0 (b.1 0 * b.1 1 - 1) (by omega) (by omega) S h
  exact ⟨z2, u, g1, g2, fun k hk => (g3 k hk).trans (by
    show va_up _ 0 _ k = _
    rw [va_n (by omega)]), g4⟩

/-! The class's choice is the greedy one. -/
def CHS (T : Nat → Bool) (t : Mo) : Prop := 0 ≤ (t.1 0).toInt ∧ (∀ j : Nat, (j : Int) < (t.1 0).toInt → 0 ≤ (t.2 2 j).toInt ∧ T (t.2 2 j).toInt.toNat = true) ∧ (∀ i, T i = true → ∃ j : Nat, (j : Int) < (t.1 0).toInt ∧ (t.2 2 j).toInt = (i : Int)) ∧ (∀ i j : Nat, i < j → (j : Int) < (t.1 0).toInt → ¬ t.2 2 i = t.2 2 j)
def AS (n : Nat) (L : Nat → Int) (A : Nat → Bool) (l : Int) (y : Int32) : Prop := ∀ c : Nat, c < n → 0 < L c → (A c = true ↔ (l < L c ∨ (L c = l ∧ (y = -1 ∨ (c : Int) < y.toInt))))
theorem CHS_ad {T : Nat → Bool} {t : Mo} {c r : Int32} (h : CHS T t) (hm : (t.1 0).toInt < 40) (h0 : 0 ≤ c.toInt) (hc : T c.toInt.toNat = false) : CHS (ad T c.toInt.toNat) ((va_up (va_up t.1 0 ((t.1 0) + 1)) 1 r), (va_up t.2 2 (upd (t.2 2) (t.1 0).toInt.toNat c))) := by
  have e1 : (1 : Int32).toInt = 1 := rfl
  obtain ⟨a, b, d, e⟩ := h
  have s := nw (tq_addr e1 (t.1 0)) (by omega)
  have k0 : (((va_up (va_up t.1 0 ((t.1 0) + 1)) 1 r), (va_up t.2 2 (upd (t.2 2) (t.1 0).toInt.toNat c))) : Mo).1 0 = t.1 0 + 1 := rfl
  have k2 : (((va_up (va_up t.1 0 ((t.1 0) + 1)) 1 r), (va_up t.2 2 (upd (t.2 2) (t.1 0).toInt.toNat c))) : Mo).2 2 = upd (t.2 2) (t.1 0).toInt.toNat c := rfl
  unfold CHS
  rw [k0, k2, s]
  have ae : ad T c.toInt.toNat c.toInt.toNat = true := by unfold ad; rw [decide_eq_true rfl, Bool.or_true]
  have al : ∀ i, T i = true → ad T c.toInt.toNat i = true := fun i h => by unfold ad; rw [h]; rfl
  refine ⟨by omega, fun j hj => ?_, fun i hi => ?_, fun i j hij hj => ?_⟩
  · by_cases g : j = (t.1 0).toInt.toNat
    · rw [g, up_e]
      exact ⟨h0, ae⟩
    · rw [up_n g]
      exact ⟨(b j (by omega)).1, al _ (b j (by omega)).2⟩
  · unfold ad at hi
    rcases Bool.or_eq_true_iff.mp hi with g | g
    · obtain ⟨j, j1, j2⟩ := d i g
      exact ⟨j, by omega, by rw [up_n (by omega)]; exact j2⟩
    · have := of_decide_eq_true g
      exact ⟨(t.1 0).toInt.toNat, by omega, by rw [up_e]; omega⟩
  · by_cases g : j = (t.1 0).toInt.toNat
    · rw [g, up_e, up_n (by omega)]
      intro q
      have k := (b i (by omega)).2
      rw [q, hc] at k
      cases k
    · rw [up_n g, up_n (by omega)]
      exact e i j hij (by omega)
def CI (f : Nat → Int64) (R W : Int) (u0 t : Mo) (k : Nat) (A T : Nat → Bool) : Prop := t.2 0 = u0.2 0 ∧ t.2 1 = u0.2 1 ∧ CHS T t ∧ 0 ≤ (t.1 1).toInt ∧ ie [0, 1] t.1 u0.1 ∧ PR (R * W).toNat (LE f) (CU f) (f 2).toInt k A T (t.1 0).toInt.toNat (t.1 1).toInt
theorem e2_chain_L {f : Nat → Int64} {b : Bd} {u0 : Mo} {R W D : Int} {z2 z3 : Int32} {p6 : Mo → Prop} {e6 : Mo → Int32 → Int32 → Int32 → Int32 → Prop} (hf : rw_ok R W D f) (hD : 0 < D) (hB : RB b f) (hS : ∀ c : Nat, c < (R * W).toNat → 0 < LE f c → MN (R * W).toNat (LE f) (c : Int) (LE f c) (u0.2 1 c)) (hz : 1 ≤ z3.toInt) : ∀ (n : Nat) (t : Mo) (z4 z5 : Int32) (k : Nat) (A T : Nat → Bool), CI f R W u0 t k A T → AS (R * W).toNat (LE f) A z3.toInt z4 → 0 ≤ z5.toInt → (z4 = -1 ∨ (z5.toInt ≤ z4.toInt ∧ z4.toInt < R * W ∧ LE f z4.toInt.toNat = z3.toInt)) → wp_X2_choose_L44 b p6 e6 n t z2 z3 z4 z5 → ∃ t' z5' k' A' T', e6 t' z2 z3 (-1) z5' ∧ CI f R W u0 t' k' A' T' ∧ AS (R * W).toNat (LE f) A' z3.toInt (-1) := by
  have hR := hf.2.2.2.2.2.1
  have hL := hf.2.2.2.2.1
  have rc := RB_cells hf hB
  have e1 : (1 : Int32).toInt = 1 := rfl
  have em : (-1 : Int32).toInt = -1 := rfl
  have e40 : (40 : Int32).toInt = 40 := rfl
  intro n
  induction n with
  | zero =>
    intro t z4 z5 k A T _ _ _ _ h
    exact (show False from h).elim
  | succ n ih =>
    intro t z4 z5 k A T hI hA h5 h4 h
    unfold wp_X2_choose_L44 at h
    by_cases c4 : z4 = -1
    · subst c4
      by_cases c : 40 ≤ z5
      · exact ⟨t, z5, k, A, T, h.1 c, hI, hA⟩
      · exact ⟨t, z5, k, A, T, (h.2 c).1 rfl, hI, hA⟩
    · rcases h4 with h4 | ⟨h4, h6, h7⟩
      · exact (c4 h4).elim
      · have c : ¬ 40 ≤ z5 := fun g => by have := q_le g; omega
        have h := (h.2 c).2 c4
        obtain ⟨i1, i2, i3, i4, i5, i6⟩ := id hI
        have pb := PR_b (by omega) i6
        have pc := PR_ct i6
        obtain ⟨r, h, er⟩ := e0_currentOf hf hD hB (by omega) h6 h
        have cb := CU_b hf hD hB (c := z4.toInt.toNat) (by omega)
        have a5 := nw (tq_addr e1 z5) (by omega)
        have ac := nw (tq_add (t.1 1) r) (by omega)
        have fA : A z4.toInt.toNat = false := by
          cases q : A z4.toInt.toNat with
          | false => rfl
          | true =>
            have k := (hA z4.toInt.toNat (by omega) (by omega)).mp q
            rcases k with k | ⟨_, k | k⟩
            · omega
            · exact (c4 k).elim
            · omega
        have fT : T z4.toInt.toNat = false := by
          cases q : T z4.toInt.toNat with
          | false => rfl
          | true =>
            rw [pb.2.1 _ q] at fA
            cases fA
        have nx : NX (R * W).toNat (LE f) A z4.toInt.toNat := by
          refine ⟨by omega, by omega, fA, fun d d1 d2 d3 => ?_⟩
          have k : ¬ (z3.toInt < LE f d ∨ (LE f d = z3.toInt ∧ (z4 = -1 ∨ (d : Int) < z4.toInt))) := fun g => by
            rw [(hA d d1 d2).mpr g] at d3
            cases d3
          unfold bf
          by_cases g : LE f d = z3.toInt
          · have : ¬ (d : Int) < z4.toInt := fun q => k (Or.inr ⟨g, Or.inr q⟩)
            omega
          · have : ¬ z3.toInt < LE f d := fun q => k (Or.inl q)
            omega
        have mn := hS z4.toInt.toNat (by omega) (by omega)
        rw [h7] at mn
        have zc : ((z4.toInt.toNat : Nat) : Int) = z4.toInt := by omega
        rw [zc, ← i2] at mn
        have hA' : AS (R * W).toNat (LE f) (ad A z4.toInt.toNat) z3.toInt (t.2 1 z4.toInt.toNat) := by
          intro d d1 d2
          unfold ad
          have q := hA d d1 d2
          rw [Bool.or_eq_true, q]
          constructor
          · rintro (g | g)
            · rcases g with g | ⟨g1, g2⟩
              · exact Or.inl g
              · refine Or.inr ⟨g1, ?_⟩
                rcases g2 with g2 | g2
                · exact (c4 g2).elim
                · rcases mn with ⟨m1, _⟩ | ⟨m1, _⟩
                  · exact Or.inl m1
                  · exact Or.inr (by omega)
            · have g := of_decide_eq_true g
              refine Or.inr ⟨by rw [g]; exact h7, ?_⟩
              rcases mn with ⟨m1, _⟩ | ⟨m1, _⟩
              · exact Or.inl m1
              · exact Or.inr (by omega)
          · rintro (g | ⟨g1, g2⟩)
            · exact Or.inl (Or.inl g)
            · by_cases e : d = z4.toInt.toNat
              · exact Or.inr (decide_eq_true e)
              · refine Or.inl (Or.inr ⟨g1, Or.inr ?_⟩)
                rcases mn with ⟨m1, m2⟩ | ⟨m1, m2, m3, m4, m5⟩
                · by_cases g : (d : Int) < z4.toInt
                  · exact g
                  · exact (m2 d (by omega) d1 g1).elim
                · by_cases g : (d : Int) < z4.toInt
                  · exact g
                  · have := m5 d (by omega) d1 g1
                    rcases g2 with g2 | g2
                    · rw [g2, em] at m2
                      omega
                    · omega
        have h4' : t.2 1 z4.toInt.toNat = -1 ∨ ((z5 + 1).toInt ≤ (t.2 1 z4.toInt.toNat).toInt ∧ (t.2 1 z4.toInt.toNat).toInt < R * W ∧ LE f (t.2 1 z4.toInt.toNat).toInt.toNat = z3.toInt) := by
          rcases mn with ⟨m1, _⟩ | ⟨m1, m2, m3, m4, _⟩
          · exact Or.inl m1
          · exact Or.inr ⟨by omega, by omega, m4⟩
        have tk : Int32.toNatClampNeg z4 = z4.toInt.toNat := tn_i z4
        rw [tk, tn_i] at h
        by_cases c2 : b.1 2 < t.1 1 + r
        · have := q_lt c2
          exact ih t (t.2 1 z4.toInt.toNat) (z5 + 1) (k + 1) (ad A z4.toInt.toNat) T ⟨i1, i2, i3, i4, i5, PR_skip i6 nx (by omega)⟩ hA' (by omega) h4' (h.1 c2).2
        · have := q_nlt c2
          have mlt : (t.1 0).toInt < 40 := by
            have q := ct_ad fT (R * W).toNat
            rw [pc.2.1, if_pos nx.1] at q
            have := ct_le (ad T z4.toInt.toNat) (R * W).toNat
            have := i3.1
            omega
          have c3 : ¬ 40 ≤ t.1 0 := fun g => by have := q_le g; omega
          have h := ((h.2 c2).2 c3).2.2
          have a0 := nw (tq_addr e1 (t.1 0)) (by have := i3.1; omega)
          refine ih ((va_up (va_up t.1 0 ((t.1 0) + 1)) 1 ((t.1 1) + r)), (va_up t.2 2 (upd (t.2 2) (t.1 0).toInt.toNat z4))) (t.2 1 z4.toInt.toNat) (z5 + 1) (k + 1) (ad A z4.toInt.toNat) (ad T z4.toInt.toNat) ⟨i1, i2, CHS_ad i3 mlt (by omega) fT, ?_, ie_up (ie_up i5 (by decide)) (by decide), ?_⟩ hA' (by omega) h4' h
          · show 0 ≤ (t.1 1 + r).toInt
            omega
          · show PR _ _ _ _ (k + 1) _ _ (t.1 0 + 1).toInt.toNat (t.1 1 + r).toInt
            have e4 : (t.1 0 + 1).toInt.toNat = (t.1 0).toInt.toNat + 1 := by have := i3.1; omega
            rw [e4, ac, er]
            exact PR_take i6 nx (by omega)

/-! The class's choice, all of it. -/
theorem n0x (d : Nat) : ¬ ((0 : Int32) = -1 ∨ (d : Int) < (0 : Int32).toInt) := by
  rintro (g | g)
  · have := congrArg Int32.toInt g
    have k : ¬ (0 : Int32).toInt = (-1 : Int32).toInt := by decide
    exact k this
  · have e0 : (0 : Int32).toInt = 0 := rfl
    rw [e0] at g
    omega
theorem e2_choose_L {f : Nat → Int64} {b : Bd} {u0 : Mo} {R W D : Int} {z2 : Int32} {P : Mo → Prop} (hf : rw_ok R W D f) (hD : 0 < D) (hB : RB b f) (hS : SRT (R * W).toNat (LE f) u0 z2 (-1)) : ∀ (n : Nat) (t : Mo) (z3 : Int32) (k : Nat) (A T : Nat → Bool), CI f R W u0 t k A T → AS (R * W).toNat (LE f) A z3.toInt 0 → 0 ≤ z3.toInt → z3.toInt ≤ 39 → wp_X2_choose_L18 b P (fun t0 z2 z3 => P t0) n t z2 z3 → ∃ t' k' A' T', P t' ∧ CI f R W u0 t' k' A' T' ∧ CP (R * W).toNat (LE f) (f 2).toInt A' (t'.1 1).toInt := by
  have hR := hf.2.2.2.2.2.1
  have rc := RB_cells hf hB
  have e0 : (0 : Int32).toInt = 0 := rfl
  have em : (-1 : Int32).toInt = -1 := rfl
  intro n
  induction n with
  | zero =>
    intro t z3 k A T _ _ _ _ h
    exact (show False from h).elim
  | succ n ih =>
    intro t z3 k A T hI hA h0 h1 h
    unfold wp_X2_choose_L18 at h
    by_cases c : z3 ≤ 0
    · have := q_le c
      exact ⟨t, k, A, T, h.1 c, hI, Or.inl (fun d d1 d2 => (hA d d1 d2).mpr (Or.inl (by omega)))⟩
    · have := q_nle c
      have h := h.2 c
      by_cases c2 : b.1 2 ≤ t.1 1
      · have := q_le c2
        exact ⟨t, k, A, T, h.1 c2, hI, Or.inr (by omega)⟩
      · obtain ⟨n4, h⟩ := (h.2 c2).2
        have a := tq_add z3 (-1)
        rw [em] at a
        generalize hw : z3 + (-1) = w at a
        have a := nw a (by omega)
        have mn := hS.1 z3.toInt.toNat (by omega) (by omega)
        have zc : ((z3.toInt.toNat : Nat) : Int) = z3.toInt := by omega
        rw [zc, ← hI.1] at mn
        rw [tn_i] at h
        have hA2 : AS (R * W).toNat (LE f) A z3.toInt (t.2 0 z3.toInt.toNat) := by
          intro d d1 d2
          rw [hA d d1 d2]
          constructor
          · rintro (g | ⟨g1, g2⟩)
            · exact Or.inl g
            · exfalso
              exact n0x d g2
          · rintro (g | ⟨g1, g2⟩)
            · exact Or.inl g
            · exfalso
              rcases mn with ⟨m1, m2⟩ | ⟨m1, m2, m3, m4, m5⟩
              · exact m2 d (by omega) d1 g1
              · have := m5 d (by omega) d1 g1
                rcases g2 with g2 | g2
                · rw [g2, em] at m2
                  omega
                · omega
        have h4 : t.2 0 z3.toInt.toNat = -1 ∨ ((0 : Int32).toInt ≤ (t.2 0 z3.toInt.toNat).toInt ∧ (t.2 0 z3.toInt.toNat).toInt < R * W ∧ LE f (t.2 0 z3.toInt.toNat).toInt.toNat = z3.toInt) := by
          rcases mn with ⟨m1, _⟩ | ⟨m1, m2, m3, m4, _⟩
          · exact Or.inl m1
          · exact Or.inr ⟨by rw [e0]; exact m2, by omega, m4⟩
        obtain ⟨t', z5', k', A', T', g1, g2, g3⟩ := e2_chain_L hf hD hB (fun c c1 c2 => hS.2.1 c (by omega) c1 c2) (by omega) n4 t (t.2 0 z3.toInt.toNat) 0 k A T hI hA2 (by decide) h4 h
        have g1 : wp_X2_choose_L18 b P (fun t0 z2 z3 => P t0) n t' z2 (z3 + (-1)) := g1
        rw [hw] at g1
        refine ih t' w k' A' T' g2 (fun d d1 d2 => ?_) (by omega) (by omega) g1
        rw [g3 d d1 d2]
        constructor
        · rintro (g | ⟨g, _⟩)
          · exact Or.inl (by omega)
          · exact Or.inl (by omega)
        · rintro (g | ⟨g1, g2⟩)
          · by_cases q : z3.toInt < LE f d
            · exact Or.inl q
            · exact Or.inr ⟨by omega, Or.inl rfl⟩
          · exfalso
            exact n0x d g2
/-- what choose gives: the greedy choice, as a list without repetition -/
def FC (f : Nat → Int64) (R W : Int) (t : Mo) : Prop := ∃ k A T, CHS T t ∧ PR (R * W).toNat (LE f) (CU f) (f 2).toInt k A T (t.1 0).toInt.toNat (t.1 1).toInt ∧ CP (R * W).toNat (LE f) (f 2).toInt A (t.1 1).toInt
theorem e2_choose {P : Mo → Prop} {f : Nat → Int64} {b : Bd} {t : Mo} {R W D : Int} (hf : rw_ok R W D f) (hD : 0 < D) (hB : RB b f) (h : wp_X2_choose P t b) : ∃ u, P u ∧ ie [0, 1] u.1 t.1 ∧ FC f R W u := by
  unfold wp_X2_choose at h
  have e0 : (0 : Int32).toInt = 0 := rfl
  obtain ⟨r, u, h, u1, u2, hS⟩ := e2_sort hf hD hB h
  obtain ⟨n, h⟩ := h
  have u10 : u.1 0 = 0 := by rw [u1]; rfl
  have u11 : u.1 1 = 0 := by rw [u1]; rfl
  have hI : CI f R W u u 0 (fun _ => false) (fun _ => false) := by
    refine ⟨rfl, rfl, ⟨by rw [u10]; decide, fun j hj => ?_, fun i hi => (by cases hi), fun i j _ hj => ?_⟩, by rw [u11]; decide, ie_refl _ _, ?_⟩
    · rw [u10] at hj
      omega
    · rw [u10] at hj
      omega
    · rw [u10, u11]
      exact PR_nil
  obtain ⟨t', k', A', T', g1, g2, g3⟩ := e2_choose_L hf hD hB hS n u r 0 _ _ hI (fun d d1 d2 => by
    constructor
    · intro g
      cases g
    · rintro (g | ⟨_, g2 | g2⟩)
      · have := hS.2.2.1 d (by omega) d1
        omega
      · exact (n0x d (Or.inl g2)).elim
      · exact (n0x d (Or.inr g2)).elim) hS.2.2.2.1 hS.2.2.2.2 h
  refine ⟨t', g1, ?_, k', A', T', g2.2.2.1, g2.2.2.2.2.2, g3⟩
  have q := g2.2.2.2.2.1
  rw [u1] at q
  exact ie_tr q (by decide) (ie_up (ie_up (ie_refl _ _) (by decide)) (by decide))

/-! A tick of the class: the chosen cells make a step each. -/
def Fc (f : Nat → Int64) (c : Nat) : Int32 := Int64.toInt32 (f (8 + 42 * (c_f f c 0).toNat + 1))
theorem Fc_e {f : Nat → Int64} {R W D : Int} {c : Nat} (hf : rw_ok R W D f) (hD : 0 < D) (hc : (c : Int) < R * W) : (Fc f c).toInt = flF f c := by
  obtain ⟨q0, q1, q2, q3, q4, q5⟩ := cl_f (c := c) hf hD hc
  unfold Fc
  rw [t32 (by unfold d_f at q1; omega)]
  rfl
def sw (f : Nat → Int64) (c : Nat) : Int32 × Int32 × Int32 × Int32 := ST (Fc f c) (Int64.toInt32 (f (176 + 8 * c + 1))) (Int64.toInt32 (f (176 + 8 * c + 2))) (Int64.toInt32 (f (176 + 8 * c + 4)))
theorem e0_flC {P : Int32 → Prop} {s b : Bd} {x : Int32} (k0 : s.1 = b.1) (k1 : s.2.1 1 = b.2.1 1) (k3 : s.2.1 3 = b.2.1 3) (h : wp_X0_flapsOf P s x) : wp_X0_flapsOf P b x := by
  unfold wp_X0_flapsOf at h ⊢
  rw [k0, k1, k3] at h
  exact h
theorem e0_stepC {P : Int32 → Bd → Prop} {s b : Bd} {f : Nat → Int64} {x : Int32} {R W D : Int} (hf : rw_ok R W D f) (hD : 0 < D) (hB : RB b f) (k0 : s.1 = b.1) (k1 : s.2.1 1 = b.2.1 1) (k3 : s.2.1 3 = b.2.1 3) (hc : ∀ j, s.2.1 j x.toInt.toNat = b.2.1 j x.toInt.toNat) (h0 : 0 ≤ x.toInt) (h1 : x.toInt < R * W) (h : wp_X0_stepOn P s x) : ∃ u, P (sw f x.toInt.toNat).2.2.2 u ∧ u.1 = s.1 ∧ u.2.2.1 = s.2.2.1 ∧ (∀ j, j < 4 ∨ j = 6 → u.2.1 j = s.2.1 j) ∧ (∀ j i, ¬ i = x.toInt.toNat → u.2.1 j i = s.2.1 j i) ∧ u.2.1 4 x.toInt.toNat = (sw f x.toInt.toNat).1 ∧ u.2.1 5 x.toInt.toNat = (sw f x.toInt.toNat).2.1 ∧ u.2.1 7 x.toInt.toNat = (sw f x.toInt.toNat).2.2.1 ∧ u.2.1 8 x.toInt.toNat = b.2.1 8 x.toInt.toNat + 1 ∧ u.2.1 9 x.toInt.toNat = b.2.1 9 x.toInt.toNat + (sw f x.toInt.toNat).2.2.2 := by
  have at_ := RB_x (c := x.toInt.toNat) hf hB (by omega)
  unfold wp_X0_stepOn at h
  obtain ⟨F, h, eF, _⟩ := e0_flF hf hD hB h0 h1 (e0_flC k0 k1 k3 h)
  have eF : F = Fc f x.toInt.toNat := Int32.toInt_inj.mp (eF.trans (Fc_e hf hD (by omega)).symm)
  subst eF
  have es : sw f x.toInt.toNat = ST (Fc f x.toInt.toNat) (s.2.1 4 x.toInt.toNat) (s.2.1 5 x.toInt.toNat) (s.2.1 7 x.toInt.toNat) := by
    unfold sw
    rw [hc 4, hc 5, hc 7, at_.2.1, at_.2.2.1, at_.2.2.2.2.1]
  rw [es, ← hc 8, ← hc 9]
  generalize Fc f x.toInt.toNat = F at *
  have h := (bh_e h.2).2
  rw [tn_i] at h
  have vu : ∀ {a : Nat → Nat → Int32} {k j i : Nat} {y : Int32}, ¬ i = x.toInt.toNat → (∀ j, a j i = s.2.1 j i) → va_up a k (upd (s.2.1 k) x.toInt.toNat y) j i = s.2.1 j i := by
    intro a k j i y hi ha
    by_cases e : j = k
    · subst e
      rw [va_up_self]
      exact up_n hi
    · rw [va_n e]
      exact ha j
  by_cases c : s.2.1 7 x.toInt.toNat ≤ 0
  · have h := (bh_e (h.1 c).2).2.2
    have ue : upd (s.2.1 4) x.toInt.toNat (bh (s.2.1 4 x.toInt.toNat) F) x.toInt.toNat = bh (s.2.1 4 x.toInt.toNat) F := up_e
    rw [ue] at h
    unfold ST
    rw [if_pos c]
    by_cases c2 : bh (s.2.1 4 x.toInt.toNat) F = 0
    · rw [if_pos c2]
      refine ⟨_, (h.2 c2).2.2.2.2.2, rfl, rfl, fun j hj => ?_, fun j i hi => ?_, ?_, up_e, rfl, up_e, up_e⟩
      · show va_up _ _ _ j = _
        rw [va_n (by omega), va_n (by omega), va_n (by omega), va_n (by omega)]
      · exact vu hi (fun j => vu hi (fun j => vu hi (fun j => vu hi (fun j => rfl))))
      · exact ue.trans c2
    · rw [if_neg c2]
      refine ⟨_, (h.1 c2).2.2.2.2.2, rfl, rfl, fun j hj => ?_, fun j i hi => ?_, up_e, up_e, rfl, up_e, up_e⟩
      · show va_up _ _ _ j = _
        rw [va_n (by omega), va_n (by omega), va_n (by omega), va_n (by omega)]
      · exact vu hi (fun j => vu hi (fun j => vu hi (fun j => vu hi (fun j => rfl))))
  · have h := (h.2 c).2.2.2.2.2.2.2
    unfold ST
    rw [if_neg c]
    refine ⟨_, h, rfl, rfl, fun j hj => ?_, fun j i hi => ?_, rfl, up_e, up_e, up_e, up_e⟩
    · show va_up _ _ _ j = _
      rw [va_n (by omega), va_n (by omega), va_n (by omega), va_n (by omega)]
    · exact vu hi (fun j => vu hi (fun j => vu hi (fun j => vu hi (fun j => rfl))))
def KS (f : Nat → Int64) (b s : Bd) (c : Nat) : Prop := s.2.1 4 c = (sw f c).1 ∧ s.2.1 5 c = (sw f c).2.1 ∧ s.2.1 7 c = (sw f c).2.2.1 ∧ s.2.1 8 c = b.2.1 8 c + 1 ∧ s.2.1 9 c = b.2.1 9 c + (sw f c).2.2.2
def CV (f : Nat → Int64) (b s : Bd) (T : Nat → Bool) : Prop := s.1 = b.1 ∧ s.2.2.1 = b.2.2.1 ∧ (∀ j, j < 4 ∨ j = 6 → s.2.1 j = b.2.1 j) ∧ ∀ c, (T c = true → KS f b s c) ∧ (T c = false → ∀ j, s.2.1 j c = b.2.1 j c)
/-- what is found by all of T below n -/
def fs (g : Nat → Int32) (T : Nat → Bool) : Nat → Int32
  | 0 => 0
  | n + 1 => fs g T n + (if T n then g n else 0)
theorem fs_ad {g : Nat → Int32} {T : Nat → Bool} {c : Nat} (hc : T c = false) : ∀ n, fs g (ad T c) n = fs g T n + (if c < n then g c else 0) := by
  intro n
  induction n with
  | zero => exact (Int32.add_zero _).symm
  | succ n ih =>
    show fs g (ad T c) n + (if ad T c n then g n else 0) = fs g T n + (if T n then g n else 0) + _
    rw [ih]
    by_cases e : n = c
    · subst e
      have a1 : ad T n n = true := by unfold ad; rw [decide_eq_true rfl, Bool.or_true]
      rw [if_neg (Nat.lt_irrefl n), if_pos (Nat.lt_succ_self n), a1, hc, if_pos rfl, if_neg (by decide), Int32.add_zero]
    · have a1 : ad T c n = T n := by unfold ad; rw [decide_eq_false e, Bool.or_false]
      rw [a1]
      by_cases l : c < n
      · rw [if_pos l, if_pos (show c < n + 1 by omega), Int32.add_assoc, Int32.add_comm (g c), ← Int32.add_assoc]
      · rw [if_neg l, if_neg (show ¬ c < n + 1 by omega), Int32.add_zero, Int32.add_zero]
theorem e2_turn_L {f : Nat → Int64} {b : Bd} {u : Mo} {T : Nat → Bool} {R W D : Int} {z2 z3 : Int32} {post : Mo → Bd → Prop} {e : Mo → Bd → Int32 → Int32 → Int32 → Prop} (hf : rw_ok R W D f) (hD : 0 < D) (hB : RB b f) (hT : CHS T u) (hm : (u.1 0).toInt ≤ 40) (hn : ∀ i, T i = true → (i : Int) < R * W) : ∀ (n : Nat) (t0 : Mo) (t1 : Bd) (z4 : Int32) (S : Nat → Bool), t0.2 = u.2 → (∀ i, ¬ i = 8 → t0.1 i = u.1 i) → 0 ≤ z4.toInt → z4.toInt ≤ (u.1 0).toInt → CV f b t1 S → t0.1 8 = u.1 8 + fs (fun c => (sw f c).2.2.2) S (R * W).toNat → (∀ i, S i = true ↔ ∃ j : Nat, (j : Int) < z4.toInt ∧ (u.2 2 j).toInt = (i : Int)) → wp_X2_turn_L27 post e n t0 t1 z2 z3 z4 → ∃ t0' t1' z4', e t0' t1' z2 z3 z4' ∧ t0'.2 = u.2 ∧ (∀ i, ¬ i = 8 → t0'.1 i = u.1 i) ∧ CV f b t1' T ∧ t0'.1 8 = u.1 8 + fs (fun c => (sw f c).2.2.2) T (R * W).toNat := by
  have hR := hf.2.2.2.2.2.1
  have e1 : (1 : Int32).toInt = 1 := rfl
  intro n
  induction n with
  | zero =>
    intro t0 t1 z4 S _ _ _ _ _ _ _ h
    exact (show False from h).elim
  | succ n ih =>
    intro t0 t1 z4 S a1 a2 a3 a4 a5 a6 a7 h
    unfold wp_X2_turn_L27 at h
    obtain ⟨t1a, t1b, t1c, t1d⟩ := id hT
    have k0 : t0.1 0 = u.1 0 := a2 0 (by decide)
    rw [k0] at h
    by_cases c : u.1 0 ≤ z4
    · have := q_le c
      have eS : S = T := by
        funext i
        cases q : T i with
        | true =>
          obtain ⟨j, j1, j2⟩ := t1c i q
          exact (a7 i).mpr ⟨j, by omega, j2⟩
        | false =>
          cases w : S i with
          | false => rfl
          | true =>
            obtain ⟨j, j1, j2⟩ := (a7 i).mp w
            have := (t1b j (by omega)).2
            rw [j2, Int.toNat_natCast, q] at this
            cases this
      rw [eS] at a5 a6
      exact ⟨t0, t1, z4, h.1 c, a1, a2, a5, a6⟩
    · have := q_nle c
      have h := (h.2 c).2
      rw [tn_i, a1] at h
      obtain ⟨x0, xT⟩ := t1b z4.toInt.toNat (by omega)
      have xn := hn _ xT
      have fS : S (u.2 2 z4.toInt.toNat).toInt.toNat = false := by
        cases w : S (u.2 2 z4.toInt.toNat).toInt.toNat with
        | false => rfl
        | true =>
          exfalso
          obtain ⟨j, j1, j2⟩ := (a7 _).mp w
          refine t1d j z4.toInt.toNat (by omega) (by omega) (Int32.toInt_inj.mp ?_)
          omega
      obtain ⟨b1, b2, b3, b4⟩ := id a5
      have a := nw (tq_addr e1 z4) (by omega)
      obtain ⟨w, h, g1, g2, g3, g4, g5, g6, g7, g8, g9⟩ := e0_stepC (b := b) hf hD hB b1 (b3 1 (by omega)) (b3 3 (by omega)) ((b4 _).2 fS) x0 (by omega) h
      generalize hx : (u.2 2 z4.toInt.toNat).toInt.toNat = x at *
      refine ih ((va_up t0.1 8 (t0.1 8 + (sw f x).2.2.2)), u.2) w (z4 + 1) (ad S x) rfl (fun i hi => ?_) (by omega) (by omega) ⟨g1.trans b1, g2.trans b2, fun j hj => (g3 j hj).trans (b3 j hj), fun c => ⟨fun hc => ?_, fun hc => ?_⟩⟩ ?_ (fun i => ?_) h
      · show va_up t0.1 8 _ i = _
        rw [va_n hi]
        exact a2 i hi
      · by_cases q : c = x
        · subst q
          exact ⟨g5, g6, g7, g8, g9⟩
        · have hc : S c = true := by
            unfold ad at hc
            rw [decide_eq_false q, Bool.or_false] at hc
            exact hc
          obtain ⟨r1, r2, r3, r4, r5⟩ := (b4 c).1 hc
          exact ⟨(g4 4 c q).trans r1, (g4 5 c q).trans r2, (g4 7 c q).trans r3, (g4 8 c q).trans r4, (g4 9 c q).trans r5⟩
      · unfold ad at hc
        rw [Bool.or_eq_false_iff] at hc
        intro j
        exact (g4 j c (of_decide_eq_false hc.2)).trans ((b4 c).2 hc.1 j)
      · show t0.1 8 + (sw f x).2.2.2 = _
        rw [fs_ad fS, if_pos (by omega), a6, Int32.add_assoc]
      · unfold ad
        rw [Bool.or_eq_true, a7 i]
        constructor
        · rintro (⟨j, j1, j2⟩ | q)
          · exact ⟨j, by omega, j2⟩
          · have := of_decide_eq_true q
            exact ⟨z4.toInt.toNat, by omega, by omega⟩
        · rintro ⟨j, j1, j2⟩
          by_cases q : j = z4.toInt.toNat
          · right
            rw [q] at j2
            exact decide_eq_true (by omega)
          · exact Or.inl ⟨j, by omega, j2⟩

/-! A tick of the reference: those that turn make a step each. -/
def SW (f g : Nat → Int64) (c : Nat) : Prop := g (176 + 8 * c + 0) = f (176 + 8 * c + 0) ∧ g (176 + 8 * c + 3) = f (176 + 8 * c + 3) ∧ g (176 + 8 * c + 7) = f (176 + 8 * c + 7) ∧ Int64.toInt32 (g (176 + 8 * c + 1)) = (sw f c).1 ∧ Int64.toInt32 (g (176 + 8 * c + 2)) = (sw f c).2.1 ∧ Int64.toInt32 (g (176 + 8 * c + 4)) = (sw f c).2.2.1 ∧ Int64.toInt32 (g (176 + 8 * c + 5)) = Int64.toInt32 (f (176 + 8 * c + 5)) + 1 ∧ Int64.toInt32 (g (176 + 8 * c + 6)) = Int64.toInt32 (f (176 + 8 * c + 6)) + (sw f c).2.2.2
def SV (f g : Nat → Int64) (T : Nat → Bool) (n z : Nat) : Prop := (∀ i, (i < 176 ∨ 176 + 8 * n ≤ i) → ¬ (i = 6 ∨ i = 7) → g i = f i) ∧ (∀ c, c < n → (T c = true ∧ c < z → SW f g c) ∧ (¬ (T c = true ∧ c < z) → ∀ j, j < 8 → g (176 + 8 * c + j) = f (176 + 8 * c + j))) ∧ (Int64.toInt32 (g 7) = Int64.toInt32 (f 7) + fs (fun c => (sw f c).2.2.2) T z ∧ Int64.toInt32 (g 6) = Int64.toInt32 (f 6) + fs (fun _ => 1) T z) ∧ ((∀ c, c < z → T c = false) → g = f)
theorem e7_ticks_L {s : Md} {f : Nat → Int64} {N R W D : Int} {post : Int32 → Md → Prop} {e : Md → Int32 → Prop} (hs : s.2.2.1 0 = f) (hf : rw_ok R W D f) (hD : 0 < D) : ∀ (n : Nat) (t : Md) (z : Int32), mb N R W D t → FN s t → 0 ≤ z.toInt → z.toInt ≤ R * W → SV f (t.2.2.1 0) (bs_at s.2.1) (R * W).toNat z.toInt.toNat → wp_X7_ticks_L6 post e n t z → ∃ t' z', e t' z' ∧ mb N R W D t' ∧ FN s t' ∧ SV f (t'.2.2.1 0) (bs_at s.2.1) (R * W).toNat (R * W).toNat := by
  have hR := hf.2.2.2.2.2.1
  have e1 : (1 : Int32).toInt = 1 := rfl
  intro n
  induction n with
  | zero =>
    intro t z _ _ _ _ _ h
    exact (show False from h).elim
  | succ n ih =>
    intro t z hM hN h0 h1 hV h
    unfold wp_X7_ticks_L6 at h
    have h := cells7_e h
    have rn := rw_n hM.2.2.2.2.1
    by_cases c : Int64.toInt32 (t.2.2.1 0 0) * Int64.toInt32 (t.2.2.1 0 1) ≤ z
    · have := q_le c
      have ez : z.toInt = R * W := by omega
      rw [ez] at hV
      exact ⟨t, z, h.1 c, hM, hN, hV⟩
    · have c1 := q_nle c
      have a := nw (tq_addr e1 z) (by omega)
      have az : (z + 1).toInt.toNat = z.toInt.toNat + 1 := by omega
      obtain ⟨v1, v2, v3, v4⟩ := id hV
      rcases e7_isIn (by omega) (h.2 c) with ⟨h, b⟩ | ⟨h, b⟩
      · rw [hN.2.1] at b
        have h := dt_conj (dt_X7_steps t z) (h.2 (by decide)) (wq_X7_steps (post := fun u => mb N R W D u) hM ⟨h0, by omega⟩ hD (fun u a _ _ _ => a))
        obtain ⟨F, eF, u, ⟨h, mu⟩, fu, sr⟩ := e7_steps hM.2.2.2.2.1 hD h0 (by omega) h
        have old := (v2 z.toInt.toNat (by omega)).2 (fun g => by omega)
        have ef := flF_c (c := z.toInt.toNat) (g := t.2.2.1 0) hf hD (by omega) (old 0 (by decide)) (fun i a b => v1 i (Or.inl b) (by omega))
        have eF : F = Fc f z.toInt.toNat := Int32.toInt_inj.mp ((eF.trans ef).trans (Fc_e hf hD (by omega)).symm)
        subst eF
        obtain ⟨s1, s2, s3, s4, s5, s6, s7, s8, s9, s10, s11⟩ := sr
        have es : ST (Fc f z.toInt.toNat) (Int64.toInt32 (t.2.2.1 0 (176 + 8 * z.toInt.toNat + 1))) (Int64.toInt32 (t.2.2.1 0 (176 + 8 * z.toInt.toNat + 2))) (Int64.toInt32 (t.2.2.1 0 (176 + 8 * z.toInt.toNat + 4))) = sw f z.toInt.toNat := by
          rw [old 1 (by decide), old 2 (by decide), old 4 (by decide)]
          rfl
        rw [es] at s5 s6 s7 s9 s11
        rw [old 0 (by decide)] at s2
        rw [old 3 (by decide)] at s3
        rw [old 7 (by decide)] at s4
        rw [old 5 (by decide)] at s8
        rw [old 6 (by decide)] at s9
        refine ih u (z + 1) mu (FN_tr hN fu) (by omega) (by omega) ⟨fun i a b => (s1 i (by omega) b).trans (v1 i a b), fun k hk => ?_, ?_, fun g => (by
          rw [az] at g
          rw [g _ (Nat.lt_succ_self _)] at b
          cases b)⟩ h
        · rw [az]
          by_cases q : k = z.toInt.toNat
          · subst q
            exact ⟨fun _ => ⟨s2, s3, s4, s5, s6, s7, s8, s9⟩, fun g => (g ⟨b, by omega⟩).elim⟩
          · have hk2 : ∀ j, j < 8 → u.2.2.1 0 (176 + 8 * k + j) = t.2.2.1 0 (176 + 8 * k + j) := fun j hj => s1 _ (by omega) (by omega)
            refine ⟨fun g => ?_, fun g j hj => ?_⟩
            · have w := (v2 k hk).1 ⟨g.1, by omega⟩
              unfold SW at w ⊢
              rw [hk2 0 (by decide), hk2 1 (by decide), hk2 2 (by decide), hk2 3 (by decide), hk2 4 (by decide), hk2 5 (by decide), hk2 6 (by decide), hk2 7 (by decide)]
              exact w
            · rw [hk2 j hj]
              exact (v2 k hk).2 (fun g2 => g ⟨g2.1, by omega⟩) j hj
        · rw [az]
          refine ⟨?_, ?_⟩
          · show _ = Int64.toInt32 (f 7) + (fs _ _ z.toInt.toNat + (if bs_at s.2.1 z.toInt.toNat then _ else 0))
            rw [if_pos b, s11, Int64.toInt32_add, t32_64, v3.1, Int32.add_assoc]
          · show _ = Int64.toInt32 (f 6) + (fs _ _ z.toInt.toNat + (if bs_at s.2.1 z.toInt.toNat then _ else 0))
            rw [if_pos b, s10, Int64.toInt32_add, v3.2, Int32.add_assoc]
            rfl
      · rw [hN.2.1] at b
        refine ih t (z + 1) hM hN (by omega) (by omega) ⟨v1, fun k hk => ?_, ?_, fun g => v4 (fun c hc => g c (by omega))⟩ (h.1 rfl)
        · rw [az]
          by_cases q : k = z.toInt.toNat
          · subst q
            exact ⟨fun g => (by
              rw [b] at g
              cases g.1), fun _ => (v2 _ hk).2 (fun g => by omega)⟩
          · exact ⟨fun g => (v2 k hk).1 ⟨g.1, by omega⟩, fun g => (v2 k hk).2 (fun g2 => g ⟨g2.1, by omega⟩)⟩
        · rw [az]
          refine ⟨?_, ?_⟩
          · show _ = Int64.toInt32 (f 7) + (fs _ _ z.toInt.toNat + (if bs_at s.2.1 z.toInt.toNat then _ else 0))
            rw [b, if_neg (by decide), Int32.add_zero]
            exact v3.1
          · show _ = Int64.toInt32 (f 6) + (fs _ _ z.toInt.toNat + (if bs_at s.2.1 z.toInt.toNat then _ else 0))
            rw [b, if_neg (by decide), Int32.add_zero]
            exact v3.2
/-- behind a tick: the same choice on both sides makes related boards -/
theorem RB_tick {b b' : Bd} {f g : Nat → Int64} {T : Nat → Bool} {R W D : Int} {n : Nat} (hf : rw_ok R W D f) (hB : RB b f) (hC : CV f b b' T) (hn : n = (R * W).toNat) (hV : ∀ i, i < 176 → ¬ (4 ≤ i ∧ i < 8) → g i = f i) (hW : ∀ c, c < n → (T c = true → SW f g c) ∧ (T c = false → ∀ j, j < 8 → g (176 + 8 * c + j) = f (176 + 8 * c + j))) : RB b' g := by
  subst hn
  obtain ⟨c1, c2, c3, c4⟩ := hC
  obtain ⟨a, b1, d⟩ := id hB
  have g0 : g 0 = f 0 := hV 0 (by omega) (by omega)
  have g1 : g 1 = f 1 := hV 1 (by omega) (by omega)
  have g2 : g 2 = f 2 := hV 2 (by omega) (by omega)
  have g3 : g 3 = f 3 := hV 3 (by omega) (by omega)
  have r0 : (f 0).toInt = R := hf.1
  have r1 : (f 1).toInt = W := hf.2.1
  refine ⟨by rw [c1, g0, g1, g2, g3]; exact a, ⟨by rw [g3, g0, g1]; exact b1.1, fun e he => ?_⟩, fun i hi => ?_⟩
  · rw [g3] at he
    have b0 := b1.1
    obtain ⟨b4, b5, b6, b7⟩ := b1.2 e he
    have b40 := b4.1
    have ed : d_f g e = d_f f e := by
      unfold d_f
      rw [hV _ (by omega) (by omega)]
    rw [c3 0 (by omega), c3 1 (by omega), c3 2 (by omega), ed, hV (8 + 42 * e) (by omega) (by omega), hV (8 + 42 * e + 1) (by omega) (by omega)]
    refine ⟨DG_k b4 (fun i h1 h2 => hV i (by omega) (by omega)), b5, b6, fun k hk => ?_⟩
    rw [hV _ (by omega) (by omega)]
    exact b7 k hk
  · rw [g0, g1] at hi
    obtain ⟨d1, d2⟩ := d i hi
    rw [r0, r1] at hi
    cases q : T i with
    | true =>
      obtain ⟨s1, s2, s3, s4, s5⟩ := (c4 i).1 q
      obtain ⟨w1, w2, w3, w4, w5, w6, w7, w8⟩ := (hW i (by omega)).1 q
      refine ⟨fun j hj => ?_, ?_⟩
      · rcases (show j = 0 ∨ j = 1 ∨ j = 2 ∨ j = 3 ∨ j = 4 ∨ j = 5 ∨ j = 6 by omega) with rfl | rfl | rfl | rfl | rfl | rfl | rfl
        · rw [c3 (3 + 0) (by omega), w1]
          exact d1 0 hj
        · exact s1.trans w4.symm
        · exact s2.trans w5.symm
        · rw [c3 (3 + 3) (by omega), w2]
          exact d1 3 hj
        · exact s3.trans w6.symm
        · rw [w7]
          exact s4.trans (by rw [← d1 5 hj])
        · rw [w8]
          exact s5.trans (by rw [← d1 6 hj])
      · rw [c2, w3]
        exact d2
    | false =>
      have s1 := (c4 i).2 q
      have w1 := (hW i (by omega)).2 q
      refine ⟨fun j hj => ?_, ?_⟩
      · rw [s1, w1 j (by omega)]
        exact d1 j hj
      · rw [c2, w1 7 (by decide)]
        exact d2

/-! One tick on both sides. -/
theorem fs_ct {T : Nat → Bool} : ∀ n, n < 1000 → (fs (fun _ => 1) T n).toInt = (ct T n : Int) := by
  intro n
  induction n with
  | zero => intro _; rfl
  | succ n ih =>
    intro hn
    have i := ih (by omega)
    have l := ct_le T n
    have e1 : (1 : Int32).toInt = 1 := rfl
    have a := nw (tq_addr e1 (fs (fun _ => 1) T n)) (by omega)
    show (fs (fun _ => 1) T n + (if T n then 1 else 0)).toInt = ((ct T n + (if T n then 1 else 0) : Nat) : Int)
    cases q : T n with
    | true =>
      rw [if_pos rfl, if_pos rfl, a]
      omega
    | false =>
      rw [if_neg (by decide), if_neg (by decide), Int32.add_zero, i]
      omega
theorem fs_f {g : Nat → Int32} : ∀ n, fs g (fun _ => false) n = 0 := by
  intro n
  induction n with
  | zero => rfl
  | succ n ih =>
    show fs g (fun _ => false) n + 0 = 0
    rw [ih]
    rfl
theorem SW_k {f g g' : Nat → Int64} {c : Nat} (h : SW f g c) (k : ∀ j, j < 8 → g' (176 + 8 * c + j) = g (176 + 8 * c + j)) : SW f g' c := by
  unfold SW at h ⊢
  rw [k 0 (by decide), k 1 (by decide), k 2 (by decide), k 3 (by decide), k 4 (by decide), k 5 (by decide), k 6 (by decide), k 7 (by decide)]
  exact h
theorem PR_nn {n : Nat} {L C : Nat → Int} {lim : Int} (hC : ∀ c, c < n → 0 ≤ C c) : ∀ {k : Nat} {A T : Nat → Bool} {m : Nat} {u : Int}, PR n L C lim k A T m u → 0 ≤ u := by
  intro k
  induction k with
  | zero =>
    intro A T m u h
    have := h.2.2.2
    omega
  | succ k ih =>
    intro A T m u h
    obtain ⟨A1, T1, m1, u1, c, a, b, e, g⟩ := h
    have i := ih a
    have := hC _ b.1
    rcases g with ⟨p1, p2, p3, p4⟩ | ⟨p1, p2, p3, p4⟩
    · omega
    · omega
/-- what the reference's tick leaves -/
def TF (v v' : Md) (r : Int32) : Prop := (v'.1 0 = v.1 0 ∧ v'.1 5 = v.1 5 ∧ ie [1, 2] v'.1 v.1) ∧ (v'.2.2.1 1 = v.2.2.1 1 ∧ v'.2.2.1 2 = v.2.2.1 2 ∧ v'.2.2.1 3 = v.2.2.1 3 ∧ v'.2.2.2 = v.2.2.2) ∧ mu_n (v'.2.2.1 0) 40 ≤ mu_n (v.2.2.1 0) 40 ∧ (r.toInt ≤ 0 ∨ mu_n (v'.2.2.1 0) 40 < mu_n (v.2.2.1 0) 40)
def TC (v v' : Md) (u : Mo) (fo : Int32) : Prop := v'.1 1 = u.1 0 ∧ v'.1 2 = u.1 1 ∧ (0 ≤ (u.1 0).toInt ∧ (u.1 0).toInt ≤ 40) ∧ (0 ≤ (u.1 1).toInt ∧ (u.1 1).toInt ≤ 99) ∧ Int64.toInt32 (v'.2.2.1 0 7) = Int64.toInt32 (v.2.2.1 0 7) + fo ∧ Int64.toInt32 (v'.2.2.1 0 6) = Int64.toInt32 (v.2.2.1 0 6) + u.1 0
/-- nobody turns -/
def IDL (f : Nat → Int64) (R W : Int) : Prop := ∃ k A u, PR (R * W).toNat (LE f) (CU f) (f 2).toInt k A (fun _ => false) 0 u ∧ CP (R * W).toNat (LE f) (f 2).toInt A u
theorem sm_tk {post : Mo → Bd → Prop} {K : Mo → Bd → Int32 → Int32 → Int32 → Prop} {P7 : Int32 → Md → Prop} {t0 : Mo} {b : Bd} {v : Md} {z2 z3 : Int32} {N R W D : Int} (hM : mb N R W D v) (hD : 0 < D) (hB : RB b (v.2.2.1 0)) (h6 : wp_X2_choose (fun u => ((¬ (u.1 0) = 0 → (∃ n27, wp_X2_turn_L27 post K n27 u b z2 z3 0)) ∧ ((u.1 0) = 0 → post u b))) t0 b) (h7 : wp_X7_ticks P7 v) : ∃ (u : Mo) (v' : Md) (fo : Int32), P7 (u.1 0) v' ∧ ie [0, 1] u.1 t0.1 ∧ mb N R W D v' ∧ TF v v' (u.1 0) ∧ TC v v' u fo ∧ ((u.1 0 = 0 ∧ post u b ∧ v'.2.2.1 0 = v.2.2.1 0 ∧ IDL (v.2.2.1 0) R W) ∨ (¬ u.1 0 = 0 ∧ ∃ u' b' z', K u' b' z2 z3 z' ∧ u'.2 = u.2 ∧ (∀ i, ¬ i = 8 → u'.1 i = u.1 i) ∧ u'.1 8 = u.1 8 + fo ∧ b'.1 = b.1 ∧ RB b' (v'.2.2.1 0))) := by
  have hf := hM.2.2.2.2.1
  have hR := hf.2.2.2.2.2.1
  have hL := hf.2.2.2.2.1
  have e0 : (0 : Int32).toInt = 0 := rfl
  have h7 : wp_X7_ticks (fun r u => P7 r u ∧ (mb N R W D u ∧ ie [1, 2] u.1 v.1 ∧ (mu_n (u.2.2.1 0) 40 ≤ mu_n (v.2.2.1 0) 40 ∧ (r.toInt ≤ 0 ∨ mu_n (u.2.2.1 0) 40 < mu_n (v.2.2.1 0) 40)))) v := dt_conj (dt_X7_ticks v) (P := fun o => P7 o.1 o.2) (Q := fun o => mb N R W D o.2 ∧ ie [1, 2] o.2.1 v.1 ∧ (mu_n (o.2.2.2.1 0) 40 ≤ mu_n (v.2.2.1 0) 40 ∧ (o.1.toInt ≤ 0 ∨ mu_n (o.2.2.2.1 0) 40 < mu_n (v.2.2.1 0) 40))) h7 (wq_X7_ticks hM hD (fun r u a b _ d => ⟨a, b, d⟩))
  obtain ⟨u, h6, i6, k6, A6, T6, ch, p6, q6⟩ := e2_choose hf hD hB h6
  unfold wp_X7_ticks at h7
  have h7 := dt_conj (dt_X7_findsTurning v) h7 (wq_X7_findsTurningB (post := fun u => mb N R W D u) hM hD (fun u a _ _ => a))
  obtain ⟨w, ⟨⟨n7, h7⟩, mw⟩, w1, w2, w3, m7, k7, A7, p7, q7⟩ := e7_finds hf hD hB h7
  obtain ⟨eT, em, ec⟩ := PR_f (fun c hc => (CU_b hf hD hB (c := c) (by omega)).1) p6 q6 p7 q7
  have pc := PR_ct p6
  have pb := PR_b (by omega) p6
  have cl := ct_le T6 (R * W).toNat
  have e1 : w.1 1 = u.1 0 := Int32.toInt_inj.mp (by have := ch.1; omega)
  have e2 : w.1 2 = u.1 1 := Int32.toInt_inj.mp ec.symm
  have cur0 : 0 ≤ (u.1 1).toInt := PR_nn (fun c hc => by have := (CU_b hf hD hB (c := c) (by omega)).1; omega) p6
  obtain ⟨v', z', h7, mv, fN, sv⟩ := e7_ticks_L (s := w) (f := v.2.2.1 0) (by rw [w2]) hf hD n7 w 0 mw (FN_rf w) (by decide) (by rw [e0]; omega) (by
    rw [w2]
    exact ⟨fun _ _ _ => rfl, fun c hc => ⟨fun g => (by have := g.2; rw [e0] at this; omega), fun _ _ _ => rfl⟩, ⟨(Int32.add_zero _).symm, (Int32.add_zero _).symm⟩, fun _ => rfl⟩) h7
  rw [← eT] at sv
  have f1 : v'.1 1 = u.1 0 := by rw [fN.1, e1]
  have f2 : v'.1 2 = u.1 1 := by rw [fN.1, e2]
  rw [f1] at h7
  obtain ⟨s1, s2, ⟨s3, s4⟩, s5⟩ := sv
  have sc : fs (fun _ => 1) T6 (R * W).toNat = u.1 0 := Int32.toInt_inj.mp (by rw [fs_ct _ (by omega), pc.2.1]; have := ch.1; omega)
  rw [sc] at s4
  have W' : ∀ c, c < (R * W).toNat → (T6 c = true → SW (v.2.2.1 0) (v'.2.2.1 0) c) ∧ (T6 c = false → ∀ j, j < 8 → v'.2.2.1 0 (176 + 8 * c + j) = v.2.2.1 0 (176 + 8 * c + j)) := fun c hc => ⟨fun g => (s2 c hc).1 ⟨g, hc⟩, fun g => (s2 c hc).2 (fun k => by rw [g] at k; cases k.1)⟩
  have mlt : (u.1 0).toInt ≤ 40 := by have := ch.1; omega
  by_cases c : u.1 0 = 0
  · obtain ⟨h7, m', i', mu1, mu2⟩ := h7.2 c
    rw [← c] at h7 mu2
    have nT : ∀ i, T6 i = false := fun i => by
      cases q : T6 i with
      | false => rfl
      | true =>
        exfalso
        obtain ⟨j, j1, _⟩ := ch.2.2.1 i q
        rw [c, e0] at j1
        omega
    have idl : IDL (v.2.2.1 0) R W := by
      have eT : T6 = fun _ => false := funext nT
      rw [eT, c] at p6
      exact ⟨k6, A6, (u.1 1).toInt, p6, q6⟩
    refine ⟨u, v', _, h7, i6, m', ⟨⟨by rw [fN.1]; exact w1 0 (by decide), by rw [fN.1]; exact w1 5 (by decide), i'⟩, ⟨by rw [fN.2.2.1 1 (by decide), w2], by rw [fN.2.2.1 2 (by decide), w2], by rw [fN.2.2.1 3 (by decide), w2], by rw [fN.2.2.2, w3]⟩, mu1, mu2⟩, ⟨f1, f2, ⟨ch.1, mlt⟩, ⟨cur0, by have := pb.1; omega⟩, s3, s4⟩, Or.inl ⟨c, h6.2 c, s5 (fun i _ => nT i), idl⟩⟩
  · obtain ⟨h7, m', i', mu1, mu2⟩ := h7.1 c
    obtain ⟨n27, h6⟩ := h6.1 c
    obtain ⟨t', b', z', h6, g1, g2, g3, g4⟩ := e2_turn_L hf hD hB ch mlt (fun i hi => by have := (pb.2.2 i (pb.2.1 i hi)).1; omega) n27 u b 0 (fun _ => false) rfl (fun _ _ => rfl) (by decide) (by rw [e0]; exact ch.1) ⟨rfl, rfl, fun _ _ => rfl, fun c => ⟨fun g => (by cases g), fun _ _ => rfl⟩⟩ (by rw [fs_f, Int32.add_zero]) (fun i => ⟨fun g => (by cases g), fun ⟨j, j1, _⟩ => (by rw [e0] at j1; omega)⟩) h6
    have r45 : ∀ i, ¬ i = 4 → ¬ i = 5 → vp_updL (vp_updL (v'.2.2.1 0) (Int32.toNatClampNeg 4) (Int32.toInt64 (Int64.toInt32 (((v'.2.2.1 0) (Int32.toNatClampNeg 4)) + (Int32.toInt64 ((u.1 0) * (u.1 0))))))) (Int32.toNatClampNeg 5) (((vp_updL (v'.2.2.1 0) (Int32.toNatClampNeg 4) (Int32.toInt64 (Int64.toInt32 (((v'.2.2.1 0) (Int32.toNatClampNeg 4)) + (Int32.toInt64 ((u.1 0) * (u.1 0))))))) (Int32.toNatClampNeg 5)) + 1) i = v'.2.2.1 0 i := fun i a b => by
      have t4 : Int32.toNatClampNeg 4 = 4 := rfl
      have t5 : Int32.toNatClampNeg 5 = 5 := rfl
      rw [t4, t5, uL_n b, uL_n a]
    refine ⟨u, _, _, h7, i6, m', ⟨⟨?_, ?_, i'⟩, ⟨?_, ?_, ?_, ?_⟩, mu1, mu2⟩, ⟨f1, f2, ⟨ch.1, mlt⟩, ⟨cur0, by have := pb.1; omega⟩, (congrArg Int64.toInt32 (r45 7 (by decide) (by decide))).trans s3, (congrArg Int64.toInt32 (r45 6 (by decide) (by decide))).trans s4⟩, Or.inr ⟨c, t', b', z', h6, g1, g2, g4, g3.1, ?_⟩⟩
    · show v'.1 0 = _
      rw [fN.1]
      exact w1 0 (by decide)
    · show v'.1 5 = _
      rw [fN.1]
      exact w1 5 (by decide)
    · exact (fN.2.2.1 1 (by decide)).trans (by rw [w2])
    · exact (fN.2.2.1 2 (by decide)).trans (by rw [w2])
    · exact (fN.2.2.1 3 (by decide)).trans (by rw [w2])
    · exact fN.2.2.2.trans w3
    · refine RB_tick hf hB g3 rfl (fun i a b => (r45 i (by omega) (by omega)).trans (s1 i (Or.inl a) (by omega))) (fun c hc => ⟨fun g => ?_, fun g j hj => (r45 _ (by omega) (by omega)).trans ((W' c hc).2 g j hj)⟩)
      exact SW_k ((W' c hc).1 g) (fun j hj => r45 _ (by omega) (by omega))

/-! The ticks of a whole turning, as both count them. -/
def TK (v : Md) (r : Int32) (v' : Md) : Prop := ∀ P : Int32 → Md → Prop, wp_X7_ticks P v → P r v'
theorem tk_ex {v : Md} {N R W D : Int} (hM : mb N R W D v) (hD : 0 < D) : wp_X7_ticks (fun r v' => TK v r v') v := by
  obtain ⟨o, _, w, d⟩ := dt_X7_ticks v (fun _ => True) (wq_X7_ticks (post := fun _ _ => True) hM hD (fun _ _ _ _ _ _ => trivial))
  exact w (fun o => TK v o.1 o.2) (fun P h => d (fun o => P o.1 o.2) h)
/-- a tick counted -/
def cu (a : Nat → Int32) (r c fo : Int32) : Nat → Int32 := fun i => if i = 2 then a 2 + 1 else if i = 3 then a 3 + r else if i = 4 then a 4 + r * r else if i = 5 then (if a 5 < c then c else a 5) else if i = 6 then (if r * r ≤ a 7 then a 6 else a 2) else if i = 7 then (if r * r ≤ a 7 then a 7 else r * r) else a 8 + fo
def TG (v v' : Md) : Prop := (v'.1 0 = v.1 0 ∧ v'.1 5 = v.1 5 ∧ ie [1, 2] v'.1 v.1) ∧ (v'.2.2.1 1 = v.2.2.1 1 ∧ v'.2.2.1 2 = v.2.2.1 2 ∧ v'.2.2.1 3 = v.2.2.1 3 ∧ v'.2.2.2 = v.2.2.2)
theorem TG_rf (v : Md) : TG v v := ⟨⟨rfl, rfl, ie_refl _ _⟩, rfl, rfl, rfl, rfl⟩
theorem TG_tr {v u w : Md} (a : TG v u) (b : TG u w) : TG v w := ⟨⟨b.1.1.trans a.1.1, b.1.2.1.trans a.1.2.1, ie_tr b.1.2.2 (by decide) a.1.2.2⟩, b.2.1.trans a.2.1, b.2.2.1.trans a.2.2.1, b.2.2.2.1.trans a.2.2.2.1, b.2.2.2.2.trans a.2.2.2.2⟩
def TB (v v' : Md) (r fo : Int32) : Prop := TK v r v' ∧ v'.1 1 = r ∧ (1 ≤ r.toInt ∧ r.toInt ≤ 40) ∧ (0 ≤ (v'.1 2).toInt ∧ (v'.1 2).toInt ≤ 99) ∧ Int64.toInt32 (v'.2.2.1 0 7) = Int64.toInt32 (v.2.2.1 0 7) + fo ∧ Int64.toInt32 (v'.2.2.1 0 6) = Int64.toInt32 (v.2.2.1 0 6) + r ∧ mu_n (v'.2.2.1 0) 40 < mu_n (v.2.2.1 0) 40 ∧ TG v v'
def TN : Nat → (Nat → Int32) → Md → (Nat → Int32) → Md → Prop
  | 0, a, v, a', v' => (∀ i, 2 ≤ i → i ≤ 8 → a' i = a i) ∧ v' = v
  | k + 1, a, v, a', v' => ∃ v1 r fo, TB v v1 r fo ∧ TN k (cu a r (v1.1 2) fo) v1 a' v'
def TT (a : Nat → Int32) (v : Md) (a' : Nat → Int32) (v' : Md) (k : Nat) : Prop := TN k a v a' v'
theorem TT_nil {a a' : Nat → Int32} {v : Md} (h : ∀ i, 2 ≤ i → i ≤ 8 → a' i = a i) : TT a v a' v 0 := ⟨h, rfl⟩
theorem TT_cons {a a' : Nat → Int32} {v v1 v' : Md} {r fo : Int32} {k : Nat} (g : TB v v1 r fo) (t : TT (cu a r (v1.1 2) fo) v1 a' v' k) : TT a v a' v' (k + 1) := ⟨v1, r, fo, g, t⟩
theorem TT_ind {M : (Nat → Int32) → Md → (Nat → Int32) → Md → Nat → Prop} (h0 : ∀ (a a' : Nat → Int32) (v : Md), (∀ i, 2 ≤ i → i ≤ 8 → a' i = a i) → M a v a' v 0) (h1 : ∀ (a a' : Nat → Int32) (v v1 v' : Md) (r fo : Int32) (k : Nat), TB v v1 r fo → TT (cu a r (v1.1 2) fo) v1 a' v' k → M (cu a r (v1.1 2) fo) v1 a' v' k → M a v a' v' (k + 1)) : ∀ (k : Nat) {a a' : Nat → Int32} {v v' : Md}, TT a v a' v' k → M a v a' v' k := by
  intro k
  induction k with
  | zero =>
    intro a a' v v' h
    obtain ⟨g, e⟩ := h
    subst e
    exact h0 a a' _ g
  | succ k ih =>
    intro a a' v v' h
    obtain ⟨v1, r, fo, g, t⟩ := h
    exact h1 a a' v v1 v' r fo k g t (ih t)
theorem TT_mu {a a' : Nat → Int32} {v v' : Md} {k : Nat} (h : TT a v a' v' k) : mu_n (v'.2.2.1 0) 40 + (k : Int) ≤ mu_n (v.2.2.1 0) 40 := by
  refine TT_ind (M := fun a v a' v' k => mu_n (v'.2.2.1 0) 40 + (k : Int) ≤ mu_n (v.2.2.1 0) 40) (fun a a' v g => ?_) (fun a a' v v1 v' r fo k g t ih => ?_) k h
  · omega
  · have := g.2.2.2.2.2.2.1
    omega
theorem TT_c {a b a' : Nat → Int32} {v v' : Md} {k : Nat} (e : ∀ i, 2 ≤ i → i ≤ 8 → b i = a i) (h : TT a v a' v' k) : TT b v a' v' k := by
  cases k with
  | zero => exact ⟨fun i h1 h2 => (h.1 i h1 h2).trans (e i h1 h2).symm, h.2⟩
  | succ k =>
    obtain ⟨v1, r, fo, g, t⟩ := h
    refine TT_cons g ?_
    have q : ∀ r c fo, cu b r c fo = cu a r c fo := fun r c fo => funext (fun i => by
      unfold cu
      rw [e 2 (by decide) (by decide), e 3 (by decide) (by decide), e 4 (by decide) (by decide), e 5 (by decide) (by decide), e 6 (by decide) (by decide), e 7 (by decide) (by decide), e 8 (by decide) (by decide)])
    rw [q]
    exact t
theorem sm_trn_L {post : Mo → Bd → Prop} {z2 : Int32} {N R W D : Int} (hD : 0 < D) (hz : z2.toInt ≤ 9999) : ∀ (n : Nat) (t : Mo) (b : Bd) (v : Md) (z3 : Int32), mb N R W D v → RB b (v.2.2.1 0) → 0 ≤ z3.toInt → z3.toInt ≤ z2.toInt → wp_X2_turn_L6 post (fun t0 t1 z2 z3 => post t0 t1) n t b z2 z3 → ∃ k t' b' v', post t' b' ∧ TT t.1 v t'.1 v' k ∧ RB b' (v'.2.2.1 0) ∧ mb N R W D v' ∧ TG v v' ∧ z3.toInt + (k : Int) ≤ z2.toInt ∧ (z3.toInt + (k : Int) = z2.toInt ∨ IDL (v'.2.2.1 0) R W) := by
  have e1 : (1 : Int32).toInt = 1 := rfl
  have e0 : (0 : Int32).toInt = 0 := rfl
  intro n
  induction n with
  | zero =>
    intro t b v z3 _ _ _ _ h
    exact (show False from h).elim
  | succ n ih =>
    intro t b v z3 hM hB h0 h1 h
    unfold wp_X2_turn_L6 at h
    by_cases c : z2 ≤ z3
    · have := q_le c
      exact ⟨0, t, b, v, h.1 c, TT_nil (fun _ _ _ => rfl), hB, hM, TG_rf v, by omega, Or.inl (by omega)⟩
    · have := q_nle c
      have a := nw (tq_addr e1 z3) (by omega)
      obtain ⟨u, v1, fo, tk, i6, m1, tf, tc, g⟩ := sm_tk hM hD hB (h.2 c) (tk_ex hM hD)
      rcases g with ⟨g1, g2, g3, g4⟩ | ⟨g1, u', b', z', g2, g3, g4, g5, g6, g7⟩
      · refine ⟨0, u, b, v, g2, TT_nil (fun i h1 h2 => i6 i ?_), hB, hM, TG_rf v, by omega, Or.inr g4⟩
        intro q
        rcases List.mem_cons.mp q with q | q
        · omega
        · rcases List.mem_cons.mp q with q | q
          · omega
          · cases q
      · have rpos : 1 ≤ (u.1 0).toInt := by
          have : ¬ (u.1 0).toInt = 0 := fun q => g1 (Int32.toInt_inj.mp (q.trans e0.symm))
          have := tc.2.2.1
          omega
        have tb : TB v v1 (u.1 0) fo := ⟨tk, tc.1, ⟨rpos, tc.2.2.1.2⟩, (by rw [tc.2.1]; exact tc.2.2.2.1), tc.2.2.2.2.1, tc.2.2.2.2.2, (by
          rcases tf.2.2.2 with q | q
          · omega
          · exact q), ⟨tf.1, tf.2.1⟩⟩
        have kk : ∀ i, 2 ≤ i → ¬ i = 8 → u'.1 i = t.1 i := fun i h1 h2 => by
          rw [g4 i h2]
          refine i6 i ?_
          intro q
          rcases List.mem_cons.mp q with q | q
          · omega
          · rcases List.mem_cons.mp q with q | q
            · omega
            · cases q
        have k8 : u'.1 8 = t.1 8 + fo := by
          rw [g5]
          congr 1
          exact i6 8 (by decide)
        have k0 : u'.1 0 = u.1 0 := g4 0 (by decide)
        have k1 : u'.1 1 = v1.1 2 := (g4 1 (by decide)).trans tc.2.1.symm
        unfold wp_X2_countTick at g2
        rw [k0, k1, kk 2 (by decide) (by decide), kk 3 (by decide) (by decide), kk 4 (by decide) (by decide), kk 5 (by decide) (by decide), kk 7 (by decide) (by decide)] at g2
        have fin : ∀ (w : Mo) (s : Bd), (∀ i, 2 ≤ i → i ≤ 8 → w.1 i = cu t.1 (u.1 0) (v1.1 2) fo i) → RB s (v1.2.2.1 0) → wp_X2_turn_L6 post (fun t0 t1 z2 z3 => post t0 t1) n w s z2 (z3 + 1) → ∃ k t' b' v', post t' b' ∧ TT t.1 v t'.1 v' k ∧ RB b' (v'.2.2.1 0) ∧ mb N R W D v' ∧ TG v v' ∧ z3.toInt + (k : Int) ≤ z2.toInt ∧ (z3.toInt + (k : Int) = z2.toInt ∨ IDL (v'.2.2.1 0) R W) := by
          intro w s hw hs h
          obtain ⟨k, t', b', v', r1, r2, r3, r4, r5, r6, r7⟩ := ih w s v1 (z3 + 1) m1 hs (by omega) (by omega) h
          exact ⟨k + 1, t', b', v', r1, TT_cons tb (TT_c (fun i h1 h2 => (hw i h1 h2).symm) r2), r3, r4, TG_tr ⟨tf.1, tf.2.1⟩ r5, by omega, by
            rcases r7 with r7 | r7
            · exact Or.inl (by omega)
            · exact Or.inr r7⟩
        by_cases c2 : u.1 0 * u.1 0 ≤ t.1 7
        · refine fin _ _ (fun i h1 h2 => ?_) ?_ (g2.1 c2)
          · unfold cu
            rcases (show i = 2 ∨ i = 3 ∨ i = 4 ∨ i = 5 ∨ i = 6 ∨ i = 7 ∨ i = 8 by omega) with rfl | rfl | rfl | rfl | rfl | rfl | rfl
            · rfl
            · rfl
            · rfl
            · rfl
            · show u'.1 6 = (if u.1 0 * u.1 0 ≤ t.1 7 then t.1 6 else t.1 2)
              rw [if_pos c2]
              exact kk 6 (by decide) (by decide)
            · show u'.1 7 = (if u.1 0 * u.1 0 ≤ t.1 7 then t.1 7 else _)
              rw [if_pos c2]
              exact kk 7 (by decide) (by decide)
            · exact k8
          · exact g7
        · refine fin _ _ (fun i h1 h2 => ?_) ?_ (g2.2 c2)
          · unfold cu
            rcases (show i = 2 ∨ i = 3 ∨ i = 4 ∨ i = 5 ∨ i = 6 ∨ i = 7 ∨ i = 8 by omega) with rfl | rfl | rfl | rfl | rfl | rfl | rfl
            · rfl
            · rfl
            · rfl
            · rfl
            · show t.1 2 = (if u.1 0 * u.1 0 ≤ t.1 7 then t.1 6 else t.1 2)
              rw [if_neg c2]
            · show u.1 0 * u.1 0 = (if u.1 0 * u.1 0 ≤ t.1 7 then t.1 7 else u.1 0 * u.1 0)
              rw [if_neg c2]
            · exact k8
          · exact g7
