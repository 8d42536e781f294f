/-! best. -/
theorem by47 {a : Int32} (h1 : -128 ≤ a.toInt) (h2 : a.toInt ≤ 127) : a &&& 255 = 47 ↔ a = 47 := by
  have e : (47 : Int32).toInt = 47 := rfl
  constructor
  · intro h
    have h3 : (a &&& 255).toInt ≤ 127 := by
      rw [h, e]
      decide
    rw [← by_s h1 h2 h3]
    exact h
  · intro h
    subst h
    decide
/-- no slash from z on to e -/
def NSL (m0 : Md) (z e : Int) : Prop := ∀ k : Int32, z ≤ k.toInt → k.toInt < e → ¬ tb7 m0 k = 47
theorem e7_endOf_L {P : Int32 → Prop} {v m0 : Md} {t : Tp} {z e : Int32} (hxx : RX t m0) (hv : v.2.2.2 2 = m0.2.2.2 2) (h5 : v.1 5 = m0.1 5) (he : e.toInt ≤ (m0.1 5).toInt) (hn : NSL m0 z.toInt e.toInt) (hend : e.toInt = (m0.1 5).toInt ∨ tb7 m0 e = 47) : ∀ (n : Nat) (y : Int32), 0 ≤ y.toInt → z.toInt ≤ y.toInt → y.toInt ≤ e.toInt → wp_X7_endOf_L2 v P (fun _ z => P z) n z y → P e := by
  have e1 : (1 : Int32).toInt = 1 := rfl
  have bx := hxx.2.2
  have tb : ∀ k : Int32, 0 ≤ k.toInt → k.toInt < (m0.1 5).toInt → (tb7 m0 k = 47 ↔ v.2.2.2 2 (Int32.toNatClampNeg k) = 47) := fun k h0 h1 => by
    unfold tb7
    rw [if_neg (fun c => by have := q_le c; omega), hv]
    have r := bx.2.2 (Int32.toNatClampNeg k)
    exact by47 r.1 r.2
  intro n
  induction n with
  | zero =>
    intro y _ _ _ h
    exact (show False from h).elim
  | succ n ih =>
    intro y y0 y1 y2 h
    unfold wp_X7_endOf_L2 at h
    rw [h5] at h
    by_cases c : m0.1 5 ≤ y
    · have := q_le c
      have ey : y = e := Int32.toInt_inj.mp (by omega)
      rw [← ey]
      exact h.1 c
    · have := q_nle c
      have h := (h.2 c).2
      by_cases g : v.2.2.2 2 (Int32.toNatClampNeg y) = 47
      · have ey : y = e := by
          refine Int32.toInt_inj.mp ?_
          by_cases q : y.toInt < e.toInt
          · exact (hn y y1 q ((tb y y0 (by omega)).mpr g)).elim
          · omega
        rw [← ey]
        exact h.1 g
      · have ne : ¬ y = e := fun q => by
          rcases hend with k | k
          · rw [q] at this
            omega
          · rw [← q] at k
            exact g ((tb y y0 (by omega)).mp k)
        have ne2 : ¬ y.toInt = e.toInt := fun q => ne (Int32.toInt_inj.mp q)
        have s := nw (tq_addr e1 y) (by omega)
        exact ih (y + 1) (by omega) (by omega) (by omega) (h.2 g)
theorem e7_endOf {P : Int32 → Prop} {v m0 : Md} {t : Tp} {z e : Int32} (hxx : RX t m0) (hv : v.2.2.2 2 = m0.2.2.2 2) (h5 : v.1 5 = m0.1 5) (h0 : 0 ≤ z.toInt) (hze : z.toInt ≤ e.toInt) (he : e.toInt ≤ (m0.1 5).toInt) (hn : NSL m0 z.toInt e.toInt) (hend : e.toInt = (m0.1 5).toInt ∨ tb7 m0 e = 47) (h : wp_X7_endOf P v z) : P e := by
  obtain ⟨n, h⟩ := h
  exact e7_endOf_L hxx hv h5 he hn hend n z h0 (Int.le_refl _) hze h
def BR (z3 z5 z6 z7 y3 y4 y5 y6 : Int32) : Prop := y6 = z3 ∧ (z3 = 0 → y3 = -1) ∧ (¬ z3 = 0 → ¬ y3 = -1 ∧ y3 = z5 ∧ y4 = z6 ∧ y5 = z7)
theorem sm_best_L {P6 : Int32 → Prop} {P7 : Int32 → Md → Prop} {s1 : Tp} {s2 : Bd} {m : Md} {z1 z2 : Int32} {R W D : Int} (hf : rw_ok R W D (m.2.2.1 0)) (hD : 0 < D) (hB : RB s2 (m.2.2.1 0)) (hx : RX s1 m) (h1 : 0 ≤ z1.toInt ∧ z1.toInt < R) : ∀ (n6 n7 : Nat) (v : Md) (z3 z4 z5 z6 z7 z8 y3 y4 y5 y6 : Int32), v.2 = m.2 → ie [3, 4] v.1 m.1 → BR z3 z5 z6 z7 y3 y4 y5 y6 → 0 ≤ z4.toInt → z4.toInt ≤ z8.toInt → z8.toInt ≤ (m.1 5).toInt + 1 → ((m.1 5).toInt < z8.toInt → z4 = z8 ∧ ¬ z3 = 0) → 0 ≤ z3.toInt → z3.toInt ≤ z4.toInt → NSL m z4.toInt z8.toInt → wp_X6_best_L39 s1 s2 P6 (fun z1 z2 z3 z4 z5 z6 z7 z8 => ((¬ z2 = 0 → ((¬ z2 = 1 → P6 z7) ∧ (z2 = 1 → P6 z6))) ∧ (z2 = 0 → P6 z5))) n6 z1 z2 z3 z4 z5 z6 z7 z8 → wp_X7_best_L36 P7 (fun t0 z1 z2 z3 z4 z5 z6 z7 => ((¬ z2 = 0 → ((¬ z2 = 1 → P7 z5 t0) ∧ (z2 = 1 → P7 z4 t0))) ∧ (z2 = 0 → P7 z3 t0))) n7 v z1 z2 y3 y4 y5 y6 z4 → ∃ r m', P6 r ∧ P7 r m' ∧ NB m m' := by
  have e0 : (0 : Int32).toInt = 0 := rfl
  have e1 : (1 : Int32).toInt = 1 := rfl
  have em : (-1 : Int32).toInt = -1 := rfl
  have hR := hf.2.2.2.2.2.1
  have rc := RB_cells hf hB
  have rn := rw_n hf
  have bx := hx.2.2
  have sz : s1.1 0 = m.1 5 := hx.1
  have ew : Int64.toInt32 (m.2.2.1 0 1) = s2.1 1 := Int32.toInt_inj.mp (rn.2.1.trans rc.2.1.symm)
  intro n6
  induction n6 with
  | zero =>
    intro n7 v z3 z4 z5 z6 z7 z8 y3 y4 y5 y6 _ _ _ _ _ _ _ _ _ _ h
    exact (show False from h).elim
  | succ n6 ih =>
    intro n7 v z3 z4 z5 z6 z7 z8 y3 y4 y5 y6 ev e5 br h40 h48 h8 h8x h30 h34 ns h6 h7
    have v5 : v.1 5 = m.1 5 := e5 5 (by decide)
    have eg : v.2.2.1 0 = m.2.2.1 0 := by rw [ev]
    unfold wp_X6_best_L39 at h6
    rw [sz] at h6
    by_cases c : m.1 5 < z8
    · have lt := q_lt c
      obtain ⟨e48, nz3⟩ := h8x lt
      have h6 := h6.1 c
      cases n7 with
      | zero => exact (show False from h7).elim
      | succ n7 =>
        unfold wp_X7_best_L36 at h7
        rw [v5] at h7
        have h7 := h7.1 (by rw [e48]; exact c)
        obtain ⟨b1, b2, b3⟩ := br
        obtain ⟨c1, c2, c3, c4⟩ := b3 nz3
        rw [c2, c3, c4] at h7
        by_cases g : z2 = 0
        · exact ⟨_, v, h6.2 g, h7.2 g, NB_2 ev e5⟩
        · have h6 := h6.1 g
          have h7 := h7.1 g
          by_cases g1 : z2 = 1
          · exact ⟨_, v, h6.2 g1, h7.2 g1, NB_2 ev e5⟩
          · exact ⟨_, v, h6.1 g1, h7.1 g1, NB_2 ev e5⟩
    · have le := q_nlt c
      have h6 := h6.2 c
      have s8 := nw (tq_addr e1 z8) (by omega)
      have s84 := nw (tq_sub z8 z4) (by omega)
      have word : (z8.toInt = (m.1 5).toInt ∨ tb7 m z8 = 47) → wp_X6_isRowText (fun r_22 => ((¬ r_22 = 0 → wp_X0_costOf (fun r_25 => wp_X0_missesOf (fun r_27 => ((z3 = 0 → wp_X6_best_L39 s1 s2 P6 (fun z1 z2 z3 z4 z5 z6 z7 z8 => ((¬ z2 = 0 → ((¬ z2 = 1 → P6 z7) ∧ (z2 = 1 → P6 z6))) ∧ (z2 = 0 → P6 z5))) n6 z1 z2 (z3 + 1) (z8 + 1) z3 r_25 r_27 (z8 + 1)) ∧ (¬ z3 = 0 → ((r_25 < z6 → wp_X6_best_L39 s1 s2 P6 (fun z1 z2 z3 z4 z5 z6 z7 z8 => ((¬ z2 = 0 → ((¬ z2 = 1 → P6 z7) ∧ (z2 = 1 → P6 z6))) ∧ (z2 = 0 → P6 z5))) n6 z1 z2 (z3 + 1) (z8 + 1) z3 r_25 r_27 (z8 + 1)) ∧ (¬ r_25 < z6 → ((¬ r_25 = z6 → wp_X6_best_L39 s1 s2 P6 (fun z1 z2 z3 z4 z5 z6 z7 z8 => ((¬ z2 = 0 → ((¬ z2 = 1 → P6 z7) ∧ (z2 = 1 → P6 z6))) ∧ (z2 = 0 → P6 z5))) n6 z1 z2 (z3 + 1) (z8 + 1) z5 z6 z7 (z8 + 1)) ∧ (r_25 = z6 → ((z7 ≤ r_27 → wp_X6_best_L39 s1 s2 P6 (fun z1 z2 z3 z4 z5 z6 z7 z8 => ((¬ z2 = 0 → ((¬ z2 = 1 → P6 z7) ∧ (z2 = 1 → P6 z6))) ∧ (z2 = 0 → P6 z5))) n6 z1 z2 (z3 + 1) (z8 + 1) z5 z6 z7 (z8 + 1)) ∧ (¬ z7 ≤ r_27 → wp_X6_best_L39 s1 s2 P6 (fun z1 z2 z3 z4 z5 z6 z7 z8 => ((¬ z2 = 0 → ((¬ z2 = 1 → P6 z7) ∧ (z2 = 1 → P6 z6))) ∧ (z2 = 0 → P6 z5))) n6 z1 z2 (z3 + 1) (z8 + 1) z3 r_25 r_27 (z8 + 1)))))))))) s2 s1 z1 (0 : Int32) z4 (z8 - z4)) s2 s1 z1 (0 : Int32) z4 (z8 - z4)) ∧ (r_22 = 0 → P6 (-2)))) s1 s2 z4 (z8 - z4) → ∃ r m', P6 r ∧ P7 r m' ∧ NB m m' := by
        intro hend h6
        cases n7 with
        | zero => exact (show False from h7).elim
        | succ n7 =>
          unfold wp_X7_best_L36 at h7
          rw [v5] at h7
          have h7 := h7.2 (fun q => by have := q_lt q; omega)
          have h7 := e7_endOf (e := z8) hx (by rw [ev]) v5 h40 h48 (by omega) ns hend h7
          have h7 := wide_e h7
          rw [eg, ew] at h7
          rcases e6_isRowText hx (q := z4) (n0 := z8 - z4) h40 (by omega) h6 with ⟨h6, j1, j2⟩ | ⟨h6, j⟩
          · have h7 := h7.2 (fun q => by have := q_lt q; omega)
            rcases e7_areSigns hx (by rw [ev]) h40 (by omega) h7 with ⟨h7, _⟩ | ⟨_, k⟩
            · obtain ⟨u, h6, h7, ⟨u2, u1⟩, um⟩ := sm_asks (m0 := m) (v := v) (by rw [eg]; exact hf) hD (by rw [eg]; exact hB) hx (by rw [ev]) h1 (by decide) h40 (by omega) (by omega) j2 (h6.1 (by decide)) (h7.1 (by decide))
              have h6 := um _ h6
              have u2' := u2.trans ev
              have u1' : ie [3, 4] u.1 m.1 := ie_tr u1 (fun _ h => h) e5
              have u5 : u.1 5 = m.1 5 := u1' 5 (by decide)
              obtain ⟨b1, b2, b3⟩ := br
              have s3 := nw (tq_addr e1 z3) (by omega)
              have nz : ¬ z3 + 1 = 0 := fun q => by
                have := congrArg Int32.toInt q
                rw [e0] at this
                omega
              have nm : ¬ z3 = -1 := fun q => by
                rw [q, em] at h30
                omega
              have ns' : NSL m (z8 + 1).toInt (z8 + 1).toInt := fun k a b => by omega
              have fin : ∀ {z5' z6' z7' y3' y4' y5' : Int32}, (¬ y3' = -1 ∧ y3' = z5' ∧ y4' = z6' ∧ y5' = z7') → wp_X6_best_L39 s1 s2 P6 (fun z1 z2 z3 z4 z5 z6 z7 z8 => ((¬ z2 = 0 → ((¬ z2 = 1 → P6 z7) ∧ (z2 = 1 → P6 z6))) ∧ (z2 = 0 → P6 z5))) n6 z1 z2 (z3 + 1) (z8 + 1) z5' z6' z7' (z8 + 1) → wp_X7_endOf (fun r_19 => wp_X7_best_L36 P7 (fun t0 z1 z2 z3 z4 z5 z6 z7 => ((¬ z2 = 0 → ((¬ z2 = 1 → P7 z5 t0) ∧ (z2 = 1 → P7 z4 t0))) ∧ (z2 = 0 → P7 z3 t0))) n7 u z1 z2 y3' y4' y5' (y6 + 1) (r_19 + 1)) u z4 → ∃ r m', P6 r ∧ P7 r m' ∧ NB m m' := by
                intro z5' z6' z7' y3' y4' y5' hb g6 g7
                have g7 := e7_endOf (e := z8) hx (by rw [u2']) u5 h40 h48 (by omega) ns hend g7
                exact ih n7 u (z3 + 1) (z8 + 1) z5' z6' z7' (z8 + 1) y3' y4' y5' (y6 + 1) u2' u1' ⟨by rw [b1], fun q => (nz q).elim, fun _ => hb⟩ (by omega) (Int.le_refl _) (by omega) (fun _ => ⟨rfl, nz⟩) (by omega) (by omega) ns' g6 g7
              by_cases g0 : z3 = 0
              · have y3e := b2 g0
                exact fin ⟨by rw [b1]; exact nm, b1, rfl, rfl⟩ (h6.1 g0) (h7.1 y3e)
              · obtain ⟨c1, c2, c3, c4⟩ := b3 g0
                have h6 := h6.2 g0
                have h7 := h7.2 c1
                rw [c3, c4] at h7
                by_cases g1 : u.1 3 < z6
                · exact fin ⟨by rw [b1]; exact nm, b1, rfl, rfl⟩ (h6.1 g1) (h7.1 g1)
                · have h6 := h6.2 g1
                  have h7 := h7.2 g1
                  by_cases g2 : u.1 3 = z6
                  · have h6 := h6.2 g2
                    have h7 := h7.2 g2
                    by_cases g3 : z7 ≤ u.1 4
                    · exact fin ⟨c1, c2, rfl, rfl⟩ (h6.1 g3) (h7.1 g3)
                    · exact fin ⟨by rw [b1]; exact nm, b1, rfl, rfl⟩ (h6.2 g3) (h7.2 g3)
                  · exact fin ⟨c1, c2, rfl, rfl⟩ (h6.1 g2) (h7.1 g2)
            · exact (k j2).elim
          · have h6 := h6.2 rfl
            by_cases q : s2.1 1 < z8 - z4
            · exact ⟨_, v, h6, h7.1 q, NB_2 ev e5⟩
            · have := q_nlt q
              rcases e7_areSigns hx (by rw [ev]) h40 (by omega) (h7.2 q) with ⟨_, k⟩ | ⟨h7, _⟩
              · exact (j ⟨by omega, k⟩).elim
              · exact ⟨_, v, h6, h7.2 rfl, NB_2 ev e5⟩
      by_cases g : z8 = m.1 5
      · exact word (Or.inl (by rw [g])) (h6.1 g)
      · have ng : ¬ z8.toInt = (m.1 5).toInt := fun q => g (Int32.toInt_inj.mp q)
        have h6 := e5_byteAt (by omega) (h6.2 g)
        have eb : tb5 s1 z8 = tb7 m z8 := tb_eq hx z8
        rw [eb] at h6
        by_cases k : tb7 m z8 = 47
        · exact word (Or.inr k) (h6.2 k)
        · refine ih n7 v z3 z4 z5 z6 z7 (z8 + 1) y3 y4 y5 y6 ev e5 br h40 (by omega) (by omega) (fun q => by omega) h30 h34 (fun i a b => ?_) (h6.1 k) h7
          by_cases q : i.toInt = z8.toInt
          · have : i = z8 := Int32.toInt_inj.mp q
            rw [this]
            exact k
          · exact ns i a (by omega)
theorem sm_best {P6 : Int32 → Prop} {P7 : Int32 → Md → Prop} {s1 : Tp} {s2 : Bd} {m : Md} {x1 x2 : Int32} {N R W D : Int} (hx : RX s1 m) (hB : RB s2 (m.2.2.1 0)) (hM : mb N R W D m) (hs : R ≤ 0 ∨ 0 < D) (h6 : wp_X6_best P6 s1 s2 x1 x2) (h7 : wp_X7_best P7 m x1 x2) : ∃ r m', P6 r ∧ P7 r m' ∧ NB m m' := by
  have e0 : (0 : Int32).toInt = 0 := rfl
  have e2 : (2 : Int32).toInt = 2 := rfl
  have hf := hM.2.2.2.2.1
  have hR := hf.2.2.2.2.2.1
  have rc := RB_cells hf hB
  have bx := hx.2.2
  have fl : ∀ r, P6 r → P7 r m → ∃ r m', P6 r ∧ P7 r m' ∧ NB m m' := fun r a b => ⟨r, m, a, b, NB_rf m⟩
  unfold wp_X6_best at h6
  unfold wp_X7_best at h7
  rcases e0_hasRow h6 with ⟨h6, g1, g2⟩ | ⟨h6, g⟩
  · rcases e7_isRow hf h7 with ⟨h7, _, _⟩ | ⟨_, g⟩
    · have h6 := h6.2 (by decide)
      have hD : 0 < D := by omega
      rcases e7_inC (i := 0) (j := 2) rfl rfl (h7.2 (by decide)) with ⟨h7, j1, j2⟩ | ⟨h7, j⟩
      · obtain ⟨n6, h6⟩ := (h6.2 (fun c => by have := q_lt c; omega)).1 (Int32.le_iff_toInt_le.mpr (by omega))
        obtain ⟨n7, h7⟩ := h7.1 (by decide)
        exact sm_best_L hf hD hB hx ⟨g1, by omega⟩ n6 n7 m 0 0 0 0 0 0 (-1) 0 0 0 rfl (ie_refl _ _) ⟨rfl, fun _ => rfl, fun q => (q rfl).elim⟩ (by decide) (by decide) (by rw [e0]; omega) (fun q => by rw [e0] at q; omega) (by decide) (by decide) (fun k a b => by rw [e0] at a b; omega) h6 h7
      · by_cases c : x2 < 0
        · exact fl _ (h6.1 c) (h7.2 rfl)
        · have := q_nlt c
          exact fl _ ((h6.2 c).2 (fun c => by have := q_le c; omega)) (h7.2 rfl)
    · omega
  · rcases e7_isRow hf h7 with ⟨_, _, _⟩ | ⟨h7, _⟩
    · omega
    · exact fl _ (h6.1 rfl) (h7.1 rfl)
