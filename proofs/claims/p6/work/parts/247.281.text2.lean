/-! Signs between two marks. -/
theorem e6_isSign {P : Int32 → Prop} {x : Int32} (h : wp_X6_isSign P x) : (P 1 ∧ 32 ≤ x.toInt ∧ x.toInt ≤ 126 ∧ ¬ x = 39) ∨ (P 0 ∧ (x.toInt < 32 ∨ 126 < x.toInt ∨ x = 39)) := by
  have e32 : (32 : Int32).toInt = 32 := rfl
  have e126 : (126 : Int32).toInt = 126 := rfl
  unfold wp_X6_isSign at h
  by_cases c : x < 32
  · have := q_lt c
    exact Or.inr ⟨h.1 c, Or.inl (by omega)⟩
  · have c1 := q_nlt c
    have h := h.2 c
    by_cases d : 126 < x
    · have := q_lt d
      exact Or.inr ⟨h.1 d, Or.inr (Or.inl (by omega))⟩
    · have d1 := q_nlt d
      have h := h.2 d
      by_cases e : x = 39
      · exact Or.inr ⟨h.1 e, Or.inr (Or.inr e)⟩
      · exact Or.inl ⟨h.2 e, by omega, by omega, e⟩
theorem e7_isSign {P : Int32 → Prop} {x : Int32} (h : wp_X7_isSign P x) : (P 1 ∧ 32 ≤ x.toInt ∧ x.toInt ≤ 126 ∧ ¬ x = 39) ∨ (P 0 ∧ (x.toInt < 32 ∨ 126 < x.toInt ∨ x = 39)) := by
  unfold wp_X7_isSign at h
  rcases e7_inC (i := 32) (j := 126) rfl rfl h with ⟨h, d1, d2⟩ | ⟨h, d⟩
  · have h := h.2 (by decide)
    by_cases e : x = 39
    · exact Or.inr ⟨h.1 e, Or.inr (Or.inr e)⟩
    · exact Or.inl ⟨h.2 e, d1, d2, e⟩
  · refine Or.inr ⟨h.1 rfl, ?_⟩
    rcases d with d | d
    · exact Or.inl d
    · exact Or.inr (Or.inl d)
theorem e5_isSound {P : Int32 → Prop} {t : Tp} (h : wp_X5_isSound P t) : (t.1 5 = 0 → P 1) ∧ (¬ t.1 5 = 0 → P 0) := by
  unfold wp_X5_isSound at h
  exact ⟨h.2, h.1⟩
theorem e5_blame {P : Tp → Prop} {t : Tp} {x k : Int32} (hf : ¬ t.1 5 = 0) (h : wp_X5_blame P t x k) : P t := by
  unfold wp_X5_blame at h
  exact h.1 hf
/-- signs from one place on, so many -/
def SG (s : Md) (q n : Int32) : Prop := ∀ k : Nat, (k : Int) < n.toInt → 32 ≤ (tb7 s (q + nI k)).toInt ∧ (tb7 s (q + nI k)).toInt ≤ 126 ∧ ¬ tb7 s (q + nI k) = 39
theorem SG_on {s : Md} {q n : Int32} (h : SG s q n) (h0 : 0 ≤ n.toInt) (h1 : n.toInt < 1000) (hs : 32 ≤ (tb7 s (q + n)).toInt ∧ (tb7 s (q + n)).toInt ≤ 126 ∧ ¬ tb7 s (q + n) = 39) : SG s q (n + 1) := by
  have e1 : (1 : Int32).toInt = 1 := rfl
  have a := nw (tq_addr e1 n) (by omega)
  intro k hk
  by_cases c : (k : Int) < n.toInt
  · exact h k c
  · have e : nI k = n := Int32.toInt_inj.mp (by rw [nI_toInt (by omega)]; omega)
    rw [e]
    exact hs
def QR (t : Tp) (s : Md) : Prop := t.1 3 = s.1 10 ∧ s.1 6 = s.1 10 + s.1 11 ∧ 0 ≤ (s.1 10).toInt ∧ 0 ≤ (s.1 11).toInt ∧ (s.1 10).toInt + (s.1 11).toInt = (s.1 6).toInt ∧ SG s (s.1 10) (s.1 11)
theorem sub_add32 (a b : Int32) : a + b - a = b := Int32.toInt_inj.mp (by
  rw [tq_sub, tq_add]
  have := tq_r a
  have := tq_r b
  omega)
theorem sm_quo_L {p6 : Tp → Prop} {e6 : Tp → Int32 → Int32 → Prop} {p7 : Int32 → Md → Prop} {e7 : Md → Int32 → Int32 → Prop} {lo hi : Int32} (hhi : 0 ≤ hi.toInt) (hh2 : hi.toInt < 1000) : ∀ (n6 n7 : Nat) (t : Tp) (s : Md), RT t s → QR t s → (s.1 11).toInt ≤ hi.toInt → wp_X5_takeQuoted_L14 p6 e6 n6 t lo hi → wp_X7_readsQuoted_L24 p7 e7 n7 s lo hi → ∃ u v, e6 u lo hi ∧ FR t u s v ∧ ((e7 v lo hi ∧ RT u v ∧ QR u v ∧ tb7 v (v.1 6) = 39 ∧ (v.1 11).toInt ≤ hi.toInt ∧ v.1 10 = s.1 10) ∨ (p7 0 v ∧ (FL u v ∨ (u.1 5 = 0 ∧ ¬ u.1 1 < u.1 0 ∧ v.1 7 = 8 * (u.1 0) + 1)))) := by
  intro n6
  induction n6 with
  | zero =>
    intro n7 t s _ _ _ h6
    exact (show False from h6).elim
  | succ n6 ih =>
    intro n7 t s hR hQ hm h6 h7
    cases n7 with
    | zero => exact (show False from h7).elim
    | succ n7 =>
      unfold wp_X5_takeQuoted_L14 at h6
      unfold wp_X7_readsQuoted_L24 at h7
      have h7 := e7_byteAt h7
      have bb := hR.1.2.2
      have bc := hR.2.2
      have e61 : t.1 1 = s.1 6 := hR.2.1
      have eb : tb5 t (t.1 1) = tb7 s (s.1 6) := by rw [e61]; exact tb_eq hR.1 _
      have p0 : 0 ≤ (t.1 1).toInt := by rw [e61]; omega
      by_cases d : tb7 s (s.1 6) = 39
      · refine ⟨t, s, ?_, FR_rf t s, Or.inl ⟨h7.1 d, hR, hQ, d, hm, rfl⟩⟩
        by_cases c : t.1 0 ≤ t.1 1
        · exact h6.1 c
        · have k1 := (e5_isSound (h6.2 c)).1 hR.2.2.2.2
          have k2 := e5_byteAt p0 (k1.2 (by decide))
          rw [eb] at k2
          exact k2.1 d
      · have h7 := e7_byteAt (h7.2 d)
        by_cases c : t.1 0 ≤ t.1 1
        · have c1 := c
          rw [hR.1.1, e61] at c1
          have f : tb7 s (s.1 6) = -1 := by
            rcases tb7_r s (s.1 6) with g | g
            · exact g.2
            · exact absurd c1 g.1
          have c2 := q_le c1
          rcases e7_isSign h7 with ⟨h7, g, _⟩ | ⟨h7, _⟩
          · rw [f] at g
            exact absurd g (by decide)
          · have h7 := h7.2 rfl
            unfold wp_X7_fails at h7
            refine ⟨t, ((va_up s.1 7 ((8 * (s.1 6)) + 1)), s.2.1, s.2.2.1, s.2.2.2), h6.1 c, ⟨ie_refl _ _, rfl, ie_up (ie_refl _ _) (by decide), rfl⟩, Or.inr ⟨h7.2, Or.inr ⟨hR.2.2.2.2, fun g => ?_, ?_⟩⟩⟩
            · have := q_lt g
              have := q_le c
              omega
            · show 8 * s.1 6 + 1 = 8 * t.1 0 + 1
              have : s.1 6 = t.1 0 := Int32.toInt_inj.mp (by rw [hR.1.1]; omega)
              rw [this]
        · have lt : (s.1 6).toInt < (s.1 5).toInt := by
            have := q_nle c
            rw [hR.1.1, e61] at this
            omega
          have k1 := (e5_isSound (h6.2 c)).1 hR.2.2.2.2
          have k2 := e5_byteAt p0 (k1.2 (by decide))
          rw [eb] at k2
          have k3 := e5_byteAt p0 (k2.2 d)
          rw [eb] at k3
          have e1 : (1 : Int32).toInt = 1 := rfl
          have a := nw (tq_addr e1 (s.1 6)) (by omega)
          obtain ⟨q1, q2, q3, q4, q5, q6⟩ := hQ
          have es : t.1 1 - t.1 3 = s.1 11 := by
            rw [e61, q1, q2]
            exact sub_add32 _ _
          have fault : ∀ kk : Int32, 1 ≤ kk.toInt → kk.toInt ≤ 4 → ∀ P7 : Int32 → Md → Prop, wp_X5_blame (fun u_17 => wp_X5_takeQuoted_L14 p6 e6 n6 ((va_up u_17.1 1 ((u_17.1 1) + 1)), u_17.2) lo hi) t (t.1 1) kk → wp_X7_fails P7 s kk (s.1 6) → ∃ u v, e6 u lo hi ∧ FR t u s v ∧ P7 0 v ∧ FL u v := by
            intro kk g1 g2 P7 b6 b7
            obtain ⟨w, y, c1, c2, c3, c4⟩ := sm_fault hR.2.2.2.2 e61 (by omega) (by omega) g1 g2 b6 b7
            cases n6 with
            | zero => exact (show False from c1).elim
            | succ n6 =>
              obtain ⟨w0, hw0⟩ : ∃ x : Tp, x = ((va_up w.1 1 ((w.1 1) + 1)), w.2) := ⟨_, rfl⟩
              rw [← hw0] at c1
              have f5 : w0.1 5 = w.1 5 := by rw [hw0]; rfl
              have fr : FR w w0 y y := ⟨by rw [hw0]; exact ie_up (ie_refl _ _) (by decide), by rw [hw0], fun _ _ => rfl, rfl⟩
              unfold wp_X5_takeQuoted_L14 at c1
              refine ⟨w0, y, ?_, FR_tr c3 fr, c2, ⟨f5.trans c4.1, fun g => c4.2 (f5.symm.trans g)⟩⟩
              by_cases g : w0.1 0 ≤ w0.1 1
              · exact c1.1 g
              · have := (e5_isSound (c1.2 g)).2 (fun g => c4.2 (f5.symm.trans g))
                exact this.1 rfl
          rcases e6_isSign k3 with ⟨k4, g1, g2, g3⟩ | ⟨k4, g⟩
          · have k5 := k4.1 (by decide)
            rcases e7_isSign h7 with ⟨h8, _⟩ | ⟨_, g⟩
            · have h9 := h8.1 (by decide)
              by_cases f : s.1 11 = hi
              · have nf : ¬ (t.1 1 - t.1 3) < hi := fun g => by
                  have := q_lt g
                  rw [es, f] at this
                  omega
                obtain ⟨u, v, a1, a2, a3, a4⟩ := fault 2 (by decide) (by decide) _ (k5.2 nf) (h9.2 f)
                exact ⟨u, v, a1, a2, Or.inr ⟨a3.2, Or.inl a4⟩⟩
              · have f1 : ¬ (s.1 11).toInt = hi.toInt := fun g => f (Int32.toInt_inj.mp g)
                have lt2 : (t.1 1 - t.1 3) < hi := by
                  rw [es]
                  exact Int32.lt_iff_toInt_lt.mpr (by omega)
                have b := nw (tq_addr e1 (s.1 11)) (by omega)
                have nq : QR ((va_up t.1 1 ((t.1 1) + 1)), t.2) ((va_up (va_up s.1 6 ((s.1 6) + 1)) 11 ((s.1 11) + 1)), s.2.1, s.2.2.1, s.2.2.2) := by
                  refine ⟨q1, ?_, q3, ?_, ?_, ?_⟩
                  · show s.1 6 + 1 = s.1 10 + (s.1 11 + 1)
                    rw [q2, Int32.add_assoc]
                  · show 0 ≤ (s.1 11 + 1).toInt
                    omega
                  · show (s.1 10).toInt + (s.1 11 + 1).toInt = (s.1 6 + 1).toInt
                    omega
                  · show SG s (s.1 10) (s.1 11 + 1)
                    exact SG_on (s := s) q6 q4 (by omega) (by rw [← q2]; exact ⟨g1, g2, g3⟩)
                obtain ⟨u, v, a1, a2, a3⟩ := ih n7 _ _ (show RT ((va_up t.1 1 ((t.1 1) + 1)), t.2) ((va_up (va_up s.1 6 ((s.1 6) + 1)) 11 ((s.1 11) + 1)), s.2.1, s.2.2.1, s.2.2.2) from RT_step hR lt) nq (show (s.1 11 + 1).toInt ≤ hi.toInt by omega) (k5.1 lt2) (h9.1 f)
                exact ⟨u, v, a1, FR_rt a2 ⟨ie_up (ie_refl _ _) (by decide), rfl, ie_up (ie_up (ie_refl _ _) (by decide)) (by decide), rfl⟩, a3⟩
            · exfalso
              rcases g with g | g | g
              · omega
              · omega
              · exact g3 g
          · rcases e7_isSign h7 with ⟨_, g1, g2, g3⟩ | ⟨h8, _⟩
            · exfalso
              rcases g with g | g | g
              · omega
              · omega
              · exact g3 g
            · obtain ⟨u, v, a1, a2, a3, a4⟩ := fault 1 (by decide) (by decide) _ (k4.2 rfl) (h8.2 rfl)
              exact ⟨u, v, a1, a2, Or.inr ⟨a3.2, Or.inl a4⟩⟩
theorem sm_quoted {P6 : Tp → Prop} {P7 : Int32 → Md → Prop} {t : Tp} {s : Md} {lo hi : Int32} (hR : RT t s) (hlo : 0 ≤ lo.toInt) (hhi : 0 ≤ hi.toInt) (hh2 : hi.toInt < 1000) (h6 : wp_X5_takeQuoted P6 t lo hi) (h7 : wp_X7_readsQuoted P7 s lo hi) : ∃ u r v, P6 u ∧ P7 r v ∧ FR t u s v ∧ ((r = 1 ∧ RT u v ∧ u.1 3 = v.1 10 ∧ u.1 4 = v.1 11 ∧ lo.toInt ≤ (v.1 11).toInt ∧ (v.1 11).toInt ≤ hi.toInt ∧ 0 ≤ (v.1 10).toInt ∧ ((v.1 10).toInt + (v.1 11).toInt ≤ (v.1 5).toInt ∧ (s.1 6).toInt < (v.1 6).toInt) ∧ SG v (v.1 10) (v.1 11)) ∨ (r = 0 ∧ FL u v)) := by
  unfold wp_X5_takeQuoted at h6
  unfold wp_X7_readsQuoted at h7
  obtain ⟨u, r, v, a1, a2, a3, a4⟩ := sm_takeByte (by decide) hR h6 h7
  obtain ⟨n6, h6⟩ := a1
  rcases a4 with ⟨rfl, a4, ap⟩ | ⟨rfl, a4⟩
  · obtain ⟨n7, h7⟩ := a2.1 (by decide)
    have bb := a4.1.2.2
    have bc := a4.2.2
    have z0 : (0 : Int32).toInt = 0 := rfl
    have nq : QR ((va_up u.1 3 (u.1 1)), u.2) ((va_up (va_up v.1 10 (v.1 6)) 11 0), v.2.1, v.2.2.1, v.2.2.2) := by
      refine ⟨a4.2.1, ?_, bc.1, Int.le_refl _, ?_, fun k hk => ?_⟩
      · show v.1 6 = v.1 6 + 0
        rw [Int32.add_zero]
      · show (v.1 6).toInt + (0 : Int32).toInt = (v.1 6).toInt
        omega
      · have hk : (k : Int) < (0 : Int32).toInt := hk
        omega
    obtain ⟨w, x, b1, b2, b3⟩ := sm_quo_L hhi hh2 n6 n7 _ _ (show RT ((va_up u.1 3 (u.1 1)), u.2) ((va_up (va_up v.1 10 (v.1 6)) 11 0), v.2.1, v.2.2.1, v.2.2.2) from a4) nq (show (0 : Int32).toInt ≤ hi.toInt by omega) h6 h7
    have fr : FR t w s x := FR_tr a3 (FR_rt b2 ⟨ie_up (ie_refl _ _) (by decide), rfl, ie_up (ie_up (ie_refl _ _) (by decide)) (by decide), rfl⟩)
    rcases b3 with ⟨h7, b4, b5, b6, b7, b10⟩ | ⟨h7, b4 | ⟨b4, b5, b6⟩⟩
    · have lt : (x.1 6).toInt < (x.1 5).toInt := tb7_lt (by rw [b6]; decide)
      obtain ⟨q1, q2, q3, q4, q5, q6⟩ := b5
      have lt6 : w.1 1 < w.1 0 := by
        rw [b4.2.1, b4.1.1]
        exact Int32.lt_iff_toInt_lt.mpr lt
      have es : w.1 1 - w.1 3 = x.1 11 := by
        rw [b4.2.1, q1, q2]
        exact sub_add32 _ _
      have k := b1.1 lt6
      rw [es] at k
      have bb2 := b4.1.2.2
      have bc2 := b4.2.2
      by_cases c : lo ≤ x.1 11
      · have c1 := q_le c
        have rt := RT_step b4 lt
        refine ⟨_, 1, _, k.1 c, h7.1 c, FR_tr fr ⟨ie_up (ie_up (ie_refl _ _) (by decide)) (by decide), rfl, ie_up (ie_refl _ _) (by decide), rfl⟩, Or.inl ⟨rfl, rt, q1, rfl, c1, b7, q3, ?_, q6⟩⟩
        have b10 : x.1 10 = v.1 6 := b10
        have e1 : (1 : Int32).toInt = 1 := rfl
        have s1 := nw (tq_addr e1 (x.1 6)) (by omega)
        rw [b10] at q5
        refine ⟨?_, ?_⟩
        · show (x.1 10).toInt + (x.1 11).toInt ≤ (x.1 5).toInt
          rw [b10]
          omega
        · show (s.1 6).toInt < (x.1 6 + 1).toInt
          omega
      · obtain ⟨w2, y, c1, c2, c3, c4⟩ := sm_fault (show ((va_up w.1 4 (x.1 11)), w.2).1 5 = 0 from b4.2.2.2.2) b4.2.1 (by omega) (by omega) (by decide) (by decide) (k.2 c) (h7.2 c)
        exact ⟨_, 0, y, c1, c2.2, FR_tr (FR_tr fr (FR_rt c3 ⟨ie_up (ie_refl _ _) (by decide), rfl, fun _ _ => rfl, rfl⟩)) ⟨ie_up (ie_refl _ _) (by decide), rfl, fun _ _ => rfl, rfl⟩, Or.inr ⟨rfl, c4⟩⟩
    · have fin : ∀ w3 : Tp, P6 w3 → FR w w3 x x → w3.1 5 = w.1 5 → ∃ u r v, P6 u ∧ P7 r v ∧ FR t u s v ∧ ((r = 1 ∧ RT u v ∧ u.1 3 = v.1 10 ∧ u.1 4 = v.1 11 ∧ lo.toInt ≤ (v.1 11).toInt ∧ (v.1 11).toInt ≤ hi.toInt ∧ 0 ≤ (v.1 10).toInt ∧ ((v.1 10).toInt + (v.1 11).toInt ≤ (v.1 5).toInt ∧ (s.1 6).toInt < (v.1 6).toInt) ∧ SG v (v.1 10) (v.1 11)) ∨ (r = 0 ∧ FL u v)) := fun w3 g3 g1 g2 => ⟨w3, 0, x, g3, h7, FR_tr fr g1, Or.inr ⟨rfl, g2.trans b4.1, fun g => b4.2 (g2.symm.trans g)⟩⟩
      by_cases c : w.1 1 < w.1 0
      · have k := b1.1 c
        by_cases d : lo ≤ (w.1 1) - (w.1 3)
        · exact fin _ (k.1 d) ⟨ie_up (ie_up (ie_refl _ _) (by decide)) (by decide), rfl, fun _ _ => rfl, rfl⟩ rfl
        · have kb := e5_blame (t := ((va_up w.1 4 ((w.1 1) - (w.1 3))), w.2)) b4.2 (k.2 d)
          exact fin _ kb ⟨ie_up (ie_up (ie_refl _ _) (by decide)) (by decide), rfl, fun _ _ => rfl, rfl⟩ rfl
      · have kb := e5_blame (t := ((va_up w.1 4 ((w.1 1) - (w.1 3))), w.2)) b4.2 (b1.2 c)
        exact fin _ kb ⟨ie_up (ie_up (ie_refl _ _) (by decide)) (by decide), rfl, fun _ _ => rfl, rfl⟩ rfl
    · have k := b1.2 b5
      unfold wp_X5_blame at k
      have k := k.2 b4
      have rx := RX_fr hR.1 fr
      refine ⟨_, 0, x, k, h7, FR_tr fr ⟨ie_up (ie_up (ie_up (ie_refl _ _) (by decide)) (by decide)) (by decide), rfl, fun _ _ => rfl, rfl⟩, Or.inr ⟨rfl, b6.symm, ?_⟩⟩
      show ¬ 8 * (w.1 0) + 1 = 0
      refine fl_ne ?_ ?_ (by decide) (by decide)
      · rw [rx.1]
        exact rx.2.2.1
      · rw [rx.1]
        exact rx.2.2.2.1
  · have h7 := a2.2 rfl
    cases n6 with
    | zero => exact (show False from h6).elim
    | succ n6 =>
      obtain ⟨w, hw⟩ : ∃ x : Tp, x = ((va_up u.1 3 (u.1 1)), u.2) := ⟨_, rfl⟩
      rw [← hw] at h6
      have f5 : w.1 5 = u.1 5 := by rw [hw]; rfl
      have nf : ¬ w.1 5 = 0 := fun g => a4.2 (f5.symm.trans g)
      have fr : FR t w s v := FR_tr a3 ⟨by rw [hw]; exact ie_up (ie_refl _ _) (by decide), by rw [hw], fun _ _ => rfl, rfl⟩
      unfold wp_X5_takeQuoted_L14 at h6
      have b1 : ((w.1 1) < (w.1 0) → ((lo ≤ ((w.1 1) - (w.1 3)) → P6 ((va_up (va_up w.1 1 ((w.1 1) + 1)) 4 ((w.1 1) - (w.1 3))), w.2)) ∧ (¬ lo ≤ ((w.1 1) - (w.1 3)) → wp_X5_blame (fun u_23 => P6 ((va_up u_23.1 1 ((u_23.1 1) + 1)), u_23.2)) ((va_up w.1 4 ((w.1 1) - (w.1 3))), w.2) (w.1 1) (2 : Int32)))) ∧ (¬ (w.1 1) < (w.1 0) → wp_X5_blame (fun u_25 => P6 ((va_up u_25.1 1 ((u_25.1 1) + 1)), u_25.2)) ((va_up w.1 4 ((w.1 1) - (w.1 3))), w.2) (w.1 0) (1 : Int32)) := by
        by_cases g : w.1 0 ≤ w.1 1
        · exact h6.1 g
        · exact ((e5_isSound (h6.2 g)).2 nf).1 rfl
      have fin : ∀ w3 : Tp, P6 w3 → FR w w3 v v → w3.1 5 = w.1 5 → ∃ u r v, P6 u ∧ P7 r v ∧ FR t u s v ∧ ((r = 1 ∧ RT u v ∧ u.1 3 = v.1 10 ∧ u.1 4 = v.1 11 ∧ lo.toInt ≤ (v.1 11).toInt ∧ (v.1 11).toInt ≤ hi.toInt ∧ 0 ≤ (v.1 10).toInt ∧ ((v.1 10).toInt + (v.1 11).toInt ≤ (v.1 5).toInt ∧ (s.1 6).toInt < (v.1 6).toInt) ∧ SG v (v.1 10) (v.1 11)) ∨ (r = 0 ∧ FL u v)) := fun w3 g3 g1 g2 => ⟨w3, 0, v, g3, h7, FR_tr fr g1, Or.inr ⟨rfl, (g2.trans f5).trans a4.1, fun g => nf (g2.symm.trans g)⟩⟩
      by_cases c : w.1 1 < w.1 0
      · have k := b1.1 c
        by_cases d : lo ≤ (w.1 1) - (w.1 3)
        · exact fin _ (k.1 d) ⟨ie_up (ie_up (ie_refl _ _) (by decide)) (by decide), rfl, fun _ _ => rfl, rfl⟩ rfl
        · have kb := e5_blame (t := ((va_up w.1 4 ((w.1 1) - (w.1 3))), w.2)) nf (k.2 d)
          exact fin _ kb ⟨ie_up (ie_up (ie_refl _ _) (by decide)) (by decide), rfl, fun _ _ => rfl, rfl⟩ rfl
      · have kb := e5_blame (t := ((va_up w.1 4 ((w.1 1) - (w.1 3))), w.2)) nf (b1.2 c)
        exact fin _ kb ⟨ie_up (ie_up (ie_refl _ _) (by decide)) (by decide), rfl, fun _ _ => rfl, rfl⟩ rfl
