/-! All of a board's text. -/
theorem dt_mono {O : Type} {F : (O → Prop) → Prop} (h : dt F F) {P Q : O → Prop} (a : F P) (b : ∀ o, P o → Q o) : F Q := by
  obtain ⟨o, p, w, _⟩ := h P a
  exact w Q (b o p)
theorem dm2 {A B : Type} {F : (A → B → Prop) → Prop} (h : dt (fun P : A × B → Prop => F (fun a b => P (a, b))) (fun P : A × B → Prop => F (fun a b => P (a, b)))) {P Q : A → B → Prop} (a : F P) (b : ∀ x y, P x y → Q x y) : F Q := dt_mono h (P := fun o => P o.1 o.2) (Q := fun o => Q o.1 o.2) a (fun o => b o.1 o.2)
theorem cj2 {A B : Type} {F : (A → B → Prop) → Prop} (h : dt (fun P : A × B → Prop => F (fun a b => P (a, b))) (fun P : A × B → Prop => F (fun a b => P (a, b)))) {P Q : A → B → Prop} (a : F P) (b : F Q) : F (fun x y => P x y ∧ Q x y) := dt_conj h (P := fun o => P o.1 o.2) (Q := fun o => Q o.1 o.2) a b
theorem mb_row {N R W D R2 W2 D2 : Int} {s t : Md} (h : mb N R W D s) (h5 : t.1 5 = s.1 5) (h0 : t.1 0 = s.1 0) (h2 : ∀ k, ¬ k = 0 → t.2.2.1 k = s.2.2.1 k) (h3 : t.2.2.2 0 = s.2.2.2 0) (hr : rw_ok R2 W2 D2 (t.2.2.1 0)) : mb N R2 W2 D2 t := by
  obtain ⟨a0, a1, a2, a3, a4, a5, a6, a7⟩ := h
  refine ⟨by rw [h5]; exact a0, by rw [h0]; exact a1, a2, hr.2.2.2.2.2.1, hr, ?_, ?_, ?_⟩
  · rw [h0, h2 1 (by decide)]
    exact a5
  · rw [h3, h2 2 (by decide)]
    exact a6
  · rw [h2 3 (by decide)]
    exact a7
theorem e5_peek {P : Int32 → Tp → Prop} {t : Tp} (h0 : 0 ≤ (t.1 1).toInt) (hb : ¬ tb5 t (t.1 1) = 32) (h : wp_X5_peek P t) : P (tb5 t (t.1 1)) t := by
  unfold wp_X5_peek at h
  obtain ⟨n, h⟩ := h
  cases n with
  | zero => exact (show False from h).elim
  | succ n =>
    unfold wp_X5_peek_L0 at h
    by_cases c : t.1 0 ≤ t.1 1
    · have e : tb5 t (t.1 1) = -1 := by
        unfold tb5
        rw [if_pos c]
      rw [e]
      exact (h.1 c).1 c
    · have e : tb5 t (t.1 1) = t.2 (Int32.toNatClampNeg (t.1 1)) := by
        unfold tb5
        rw [if_neg c]
      rw [e] at hb ⊢
      exact (((h.2 c).2.1 hb).2 c).2
theorem fa_part {P6 : Bd → Tp → Prop} {b : Bd} {t : Tp} {v : Md} (hf : FL t v) (h : wp_X1_readPart P6 b t) : ∃ u, P6 b u ∧ FL u v := by
  unfold wp_X1_readPart at h
  obtain ⟨r, u, h, f⟩ := fa_takeWord hf h
  refine ⟨u, ?_, f⟩
  by_cases c : r < 3
  · have k := fa_blame f (h.1 c)
    exact (fa_sound f k).2 rfl
  · have h := h.2 c
    by_cases d : r ≤ 7
    · have h := h.1 d
      by_cases e : r = 3
      · have h := h.2 e
        by_cases g : b.1 3 = 4
        · have k := fa_blame f (h.2 g)
          exact (fa_sound f k).2 rfl
        · exact (fa_sound f (h.1 g)).2 rfl
      · have h := h.1 e
        by_cases g : b.1 3 = 0
        · have k := fa_blame f (h.2 g)
          exact (fa_sound f k).2 rfl
        · exact (fa_sound f (h.1 g)).2 rfl
    · have k := fa_blame f (h.2 d)
      exact (fa_sound f k).2 rfl
/-- what the reading of a board ends in -/
def OUTB (b : Bd) (t : Tp) (r : Int32) (v : Md) : Prop := (r = 1 ∧ t.1 5 = 0 ∧ RB b (v.2.2.1 0) ∧ 0 < (b.1 3).toInt) ∨ (r = 0 ∧ FL t v)
def E6 (P6 : Bd → Tp → Prop) (b : Bd) (t : Tp) : Prop := ((¬ (b.1 3) = 0 → P6 b t) ∧ ((b.1 3) = 0 → wp_X5_blame (fun u_20 => P6 b u_20) t (t.1 0) (4 : Int32)))
def E7 (P7 : Int32 → Md → Prop) (v : Md) : Prop := wp_X7_nextByte (fun r_28 u_29 => ((r_28 = (-1) → wp_X7_drums (fun r_31 => ((0 < r_31 → P7 1 u_29) ∧ (¬ 0 < r_31 → wp_X7_fails (fun r_34 u_35 => ((r_34 = 0 → P7 0 u_35) ∧ (¬ r_34 = 0 → P7 1 u_35))) u_29 (4 : Int32) (u_29.1 5)))) u_29) ∧ (¬ r_28 = (-1) → wp_X7_fails (fun r_37 u_38 => narrow .boolean (.int r_37) = .int r_37 ∧ P7 r_37 u_38) u_29 (1 : Int32) (u_29.1 6)))) v
theorem fa_E6 {P6 : Bd → Tp → Prop} {b : Bd} {t : Tp} {v : Md} (hf : FL t v) (h : E6 P6 b t) : P6 b t := by
  unfold E6 at h
  by_cases c : b.1 3 = 0
  · exact fa_blame hf (h.2 c)
  · exact h.1 c
theorem fa_L15 {P6 : Bd → Tp → Prop} {n : Nat} {b : Bd} {t : Tp} {v : Md} {z : Int32} (hf : FL t v) (h : wp_X1_readInto_L15 P6 (fun t0 t1 z2 => E6 P6 t0 t1) n b t z) : P6 b t := by
  cases n with
  | zero => exact (show False from h).elim
  | succ n =>
    unfold wp_X1_readInto_L15 at h
    by_cases c : 400 ≤ z
    · exact fa_E6 hf (h.1 c)
    · exact fa_E6 hf ((fa_sound hf (h.2 c)).1 rfl)
/-- at the text's end -/
theorem sm_end {P6 : Bd → Tp → Prop} {P7 : Int32 → Md → Prop} {b : Bd} {t : Tp} {v : Md} {R W D : Int} (hR : RT t v) (hB : RB b (v.2.2.1 0)) (hf : rw_ok R W D (v.2.2.1 0)) (hb : tb7 v (v.1 6) = -1) (h6 : E6 P6 b t) (h7 : E7 P7 v) : ∃ b' t' r v', P6 b' t' ∧ P7 r v' ∧ OUTB b' t' r v' := by
  have rn := rw_n hf
  have e0 : (0 : Int32).toInt = 0 := rfl
  have bb := hR.1.2.2
  have d6 : b.1 3 = Int64.toInt32 (v.2.2.1 0 3) := hB.1.2.2.2
  have td : (b.1 3).toInt = D := by rw [d6]; exact rn.2.2.1
  unfold E6 at h6
  unfold E7 at h7
  have h7 := drums_e ((e7_next (by rw [hb]; decide) h7).1 hb)
  rw [← d6] at h7
  by_cases c : b.1 3 = 0
  · have c0 := q_eq c
    obtain ⟨w, y, b1, b2, b3, b4⟩ := sm_fault hR.2.2.2.2 hR.1.1 bb.1 bb.2.1 (by decide) (by decide) (h6.2 c) (h7.2 (fun g => by have := q_lt g; omega))
    exact ⟨b, w, 0, y, b1, b2.1 rfl, Or.inr ⟨rfl, b4⟩⟩
  · have : ¬ D = 0 := fun g => c (Int32.toInt_inj.mp (by omega))
    exact ⟨b, t, 1, v, h6.1 c, h7.1 (Int32.lt_iff_toInt_lt.mpr (by omega)), Or.inl ⟨rfl, hR.2.2.2.2, hB, by omega⟩⟩
theorem rb_same {P7 : Int32 → Md → Prop} {f g : Md → Prop} : ∀ (n : Nat) (v : Md), wp_X7_readsBoard_L116b P7 f g n v → wp_X7_readsBoard_L116 P7 f g n v := by
  intro n
  induction n with
  | zero =>
    intro v h
    exact (show False from h).elim
  | succ n ih =>
    intro v h
    unfold wp_X7_readsBoard_L116b at h
    unfold wp_X7_readsBoard_L116
    refine dm2 (F := fun k => wp_X7_nextByte k v) (dt_X7_nextByte v) h (fun r u h => ⟨h.1, fun c => ?_⟩)
    refine dm2 (F := fun k => wp_X7_nextByte k ((va_up u.1 6 ((u.1 6) + 1)), u.2.1, u.2.2.1, u.2.2.2)) (dt_X7_nextByte _) (h.2 c) (fun r2 u2 h => ?_)
    exact dm2 (F := fun k => wp_X7_readsPart k u2) (dt_X7_readsPart u2) h (fun r3 u3 h => ⟨fun d => ih _ (h.1 d), h.2⟩)
theorem sm_board_L {P6 : Bd → Tp → Prop} {P7 : Int32 → Md → Prop} {N R W : Int} (hR1 : 1 ≤ R) : ∀ (n6 n7 : Nat) (b : Bd) (t : Tp) (v : Md) (z : Int32) (D : Int), RT t v → RB b (v.2.2.1 0) → mb N R W D v → 1 ≤ (v.2.2.1 0 2).toInt → 0 ≤ z.toInt → z.toInt ≤ (v.1 6).toInt → wp_X1_readInto_L15 P6 (fun t0 t1 z2 => E6 P6 t0 t1) n6 b t z → wp_X7_readsBoard_L116 P7 (fun t0 => P7 0 t0) (fun t0 => E7 P7 t0) n7 v → ∃ b' t' r v', P6 b' t' ∧ P7 r v' ∧ OUTB b' t' r v' := by
  have e1 : (1 : Int32).toInt = 1 := rfl
  have e400 : (400 : Int32).toInt = 400 := rfl
  intro n6
  induction n6 with
  | zero =>
    intro n7 b t v z D _ _ _ _ _ _ h
    exact (show False from h).elim
  | succ n6 ih =>
    intro n7 b t v z D hR hB hM hl h0 h1 h6 h7
    cases n7 with
    | zero => exact (show False from h7).elim
    | succ n7 =>
      have rw0 := hM.2.2.2.2.1
      have bb := hR.1.2.2
      have bc := hR.2.2
      have n5 : (v.1 5).toInt = N := hM.1
      unfold wp_X1_readInto_L15 at h6
      unfold wp_X7_readsBoard_L116 at h7
      by_cases c : 400 ≤ z
      · have c1 := q_le c
        have hb : tb7 v (v.1 6) = -1 := by
          unfold tb7
          rw [if_pos (Int32.le_iff_toInt_le.mpr (by omega))]
        have k7 := (e7_next (by rw [hb]; decide) h7).1 (by rw [hb]; decide)
        exact sm_end hR hB rw0 hb (h6.1 c) k7
      · have c1 := q_nle c
        have k6 := ((e5_isSound (h6.2 c)).1 hR.2.2.2.2).2 (by decide)
        obtain ⟨u, w, a1, a2, a3, a4, a5, a6, _⟩ := sm_peek hR k6 h7
        have fw : w.2 = v.2 := a4.2.2.2
        have hBw : RB b (w.2.2.1 0) := by rw [fw]; exact hB
        have hMw : mb N R W D w := mb_i hM (a4.2.2.1 5 (by decide)) (a4.2.2.1 0 (by decide)) (by rw [fw])
        have rww := hMw.2.2.2.2.1
        have bd := a3.1.2.2
        have be := a3.2.2
        have eb : tb5 u (u.1 1) = tb7 w (w.1 6) := by rw [a3.2.1]; exact tb_eq a3.1 _
        have p0 : 0 ≤ (u.1 1).toInt := by rw [a3.2.1]; omega
        by_cases m1 : tb7 w (w.1 6) = -1
        · exact sm_end a3 hBw rww m1 (a1.1 m1) (a2.1 (by rw [m1]; decide))
        · have k6 := a1.2 m1
          unfold wp_X5_takeByte at k6
          have k6 := e5_peek p0 (by rw [eb]; exact a5) k6
          rw [eb] at k6
          by_cases sc : tb7 w (w.1 6) = 59
          · have lt : (w.1 6).toInt < (w.1 5).toInt := tb7_lt (by rw [sc]; decide)
            have k6 := k6.2 sc
            have k7 := a2.2 sc
            have rs := RT_step a3 lt
            have as := nw (tq_addr e1 (w.1 6)) (by omega)
            have az := nw (tq_addr e1 z) (by omega)
            obtain ⟨x, hx⟩ : ∃ x : Md, x = ((va_up w.1 6 ((w.1 6) + 1)), w.2.1, w.2.2.1, w.2.2.2) := ⟨_, rfl⟩
            rw [← hx] at k7 rs
            have x6 : x.1 6 = w.1 6 + 1 := by rw [hx]; rfl
            have x6i := q_eq x6
            have hMx : mb N R W D x := mb_i hMw (by rw [hx]; rfl) (by rw [hx]; rfl) (by rw [hx])
            have hBx : RB b (x.2.2.1 0) := by rw [hx]; exact hBw
            have hlx : 1 ≤ (x.2.2.1 0 2).toInt := by
              rw [hx]
              show 1 ≤ (w.2.2.1 0 2).toInt
              rw [fw]
              exact hl
            have bx := rs.2.2
            have n5x : (x.1 5).toInt = N := hMx.1
            -- what is known of the reference's part by itself
            have k7 := cj2 (F := fun k => wp_X7_nextByte k x) (dt_X7_nextByte x) k7 (wq_X7_nextByte (post := fun r u => mb N R W D u ∧ (x.1 6).toInt ≤ (u.1 6).toInt ∧ (u.1 6).toInt ≤ N ∧ u.2 = x.2) hMx (by omega) (fun r u g1 g2 g3 g4 g5 g6 => ⟨g1, g3.1, g3.2, g5⟩))
            have k7 := dm2 (F := fun k => wp_X7_nextByte k x) (dt_X7_nextByte x) (Q := fun _ u => wp_X7_readsPart (fun r_25 u_26 => ((¬ r_25 = 0 → wp_X7_readsBoard_L116 P7 (fun t0 => P7 0 t0) (fun t0 => E7 P7 t0) n7 u_26) ∧ (r_25 = 0 → P7 0 u_26)) ∧ ∃ D4, mb N R W D4 u_26 ∧ (r_25.toInt = 0 ∨ 0 < D4) ∧ (x.1 6).toInt ≤ (u_26.1 6).toInt) u) k7 (fun r u h => by
              obtain ⟨h, g1, g2, g3, g4⟩ := h
              exact cj2 (F := fun k => wp_X7_readsPart k u) (dt_X7_readsPart u) (Q := fun r_25 u_26 => ∃ D4, mb N R W D4 u_26 ∧ (r_25.toInt = 0 ∨ 0 < D4) ∧ (x.1 6).toInt ≤ (u_26.1 6).toInt) h (wq_X7_readsPart g1 hR1 (by rw [g4]; exact hlx) (by omega) (fun r u D4 q1 q2 q3 q4 => ⟨D4, q1, q4, by omega⟩)))
            obtain ⟨b', t', r', v', g1, g2, g3⟩ := sm_part rs hBx hMx.2.2.2.2.1 k6 k7
            obtain ⟨g2, D4, q1, q2, q3⟩ := g2
            rcases g3 with ⟨rfl, g4, g5⟩ | ⟨rfl, g4⟩
            · have pD : 0 < D4 := by
                rcases q2 with q2 | q2
                · exact absurd q2 (by decide)
                · exact q2
              have lim : 1 ≤ (v'.2.2.1 0 2).toInt := by
                rcases q1.2.2.2.2.1.2.2.2.1 with g | g
                · omega
                · exact g
              exact ih n7 b' t' v' (z + 1) D4 g4 g5 q1 lim (by omega) (by omega) g1 (g2.1 (by decide))
            · exact ⟨b', t', 0, v', fa_L15 g4 g1, g2.2 rfl, Or.inr ⟨rfl, g4⟩⟩
          · have k7 := a2.1 sc
            unfold E7 at k7
            have k7 := (e7_next a5 k7).2 m1
            obtain ⟨x, y, b1, b2, b3, b4⟩ := sm_fault a3.2.2.2.2 a3.2.1 (by omega) (by omega) (by decide) (by decide) (k6.1 sc) k7
            obtain ⟨x2, b5, b6⟩ := fa_part b4 b1
            exact ⟨b, x2, 0, y, fa_L15 b6 b5, b2.2, Or.inr ⟨rfl, b6⟩⟩
