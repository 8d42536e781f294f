/-! What a text would cost: costOf, missesOf beside asks. -/
def OT (f : Nat → Int64) (c : Nat) (k : Int) : Int := if c_f f c 2 ≤ k then k - c_f f c 2 else k - c_f f c 2 + flF f c
theorem e0_onTo {P : Int32 → Prop} {s : Bd} {f : Nat → Int64} {x fl : Int32} {R W D : Int} (hf : rw_ok R W D f) (hD : 0 < D) (hB : RB s f) (h0 : 0 ≤ x.toInt) (h1 : x.toInt < R * W) (hk : 0 ≤ fl.toInt ∧ fl.toInt < flF f x.toInt.toNat) (h : wp_X0_flapsOnTo P s x fl) : ∃ r, P r ∧ r.toInt = OT f x.toInt.toNat fl.toInt := by
  obtain ⟨q0, q1, q2, q3, q4, q5⟩ := cl_f (c := x.toInt.toNat) hf hD (by omega)
  have at_ := RB_x (c := x.toInt.toNat) hf hB (by omega)
  have c2 := c32 (j := 2) hf hD (c := x.toInt.toNat) (by omega) (by decide)
  have e : flF f x.toInt.toNat = d_f f (c_f f x.toInt.toNat 0).toNat := rfl
  unfold wp_X0_flapsOnTo at h
  obtain ⟨F, h, eF, _⟩ := e0_flF hf hD hB h0 h1 h.2
  unfold wp_X6_onFrom at h
  rw [tn_i, at_.2.2.1] at h
  have s1 := nw (tq_sub fl (Int64.toInt32 (f (176 + 8 * x.toInt.toNat + 2)))) (by omega)
  unfold OT
  by_cases c : fl < Int64.toInt32 (f (176 + 8 * x.toInt.toNat + 2))
  · have := q_lt c
    have s2 := nw (tq_add (fl - Int64.toInt32 (f (176 + 8 * x.toInt.toNat + 2))) F) (by omega)
    exact ⟨_, h.1 c, by rw [if_neg (by omega)]; omega⟩
  · have := q_nlt c
    exact ⟨_, h.2 c, by rw [if_pos (by omega)]; omega⟩
theorem e7_on3 {P : Int32 → Prop} {s : Md} {x fl : Int32} {R W D : Int} (hf : rw_ok R W D (s.2.2.1 0)) (hD : 0 < D) (h0 : 0 ≤ x.toInt) (h1 : x.toInt < R * W) (hk : 0 ≤ fl.toInt ∧ fl.toInt < flF (s.2.2.1 0) x.toInt.toNat) (h : wp_X7_of (fun r => wp_X7_flaps (fun q => wp_X7_on P r fl q) s x) s x 2) : ∃ r, P r ∧ r.toInt = OT (s.2.2.1 0) x.toInt.toNat fl.toInt := by
  obtain ⟨q0, q1, q2, q3, q4, q5⟩ := cl_f (c := x.toInt.toNat) hf hD (by omega)
  have c2 := c32 (j := 2) hf hD (c := x.toInt.toNat) (by omega) (by decide)
  have h := e7_of (i := 2) h0 (by omega) rfl (by decide) h
  obtain ⟨F, h, eF, _⟩ := e7_flF hf hD h0 h1 h
  have e : flF (s.2.2.1 0) x.toInt.toNat = d_f (s.2.2.1 0) (c_f (s.2.2.1 0) x.toInt.toNat 0).toNat := rfl
  obtain ⟨r, h, g⟩ := e7_on (by omega) (by omega) (by omega) h
  refine ⟨r, h, ?_⟩
  unfold OT
  rcases g with ⟨g1, g2⟩ | ⟨g1, g2⟩
  · rw [if_pos (by omega)]
    omega
  · rw [if_neg (by omega)]
    omega
def CF (f : Nat → Int64) (m0 : Md) (x2 x4 x5 : Int32) (c : Nat) (z : Int32) (r : Int32) : Prop := ((z.toInt < x2.toInt ∨ x2.toInt + x5.toInt ≤ z.toInt) ∧ r = 0) ∨ ((x2.toInt ≤ z.toInt ∧ z.toInt < x2.toInt + x5.toInt) ∧ NV f c (tb7 m0 (x4 + nI (z.toInt - x2.toInt).toNat)) r)
theorem CF_u {f : Nat → Int64} {m0 : Md} {x2 x4 x5 : Int32} {c : Nat} {z r q : Int32} {R W D : Int} (hf : rw_ok R W D f) (hD : 0 < D) (hc : (c : Int) < R * W) (h1 : CF f m0 x2 x4 x5 c z r) (h2 : CF f m0 x2 x4 x5 c z q) : r = q := by
  rcases h1 with ⟨a, e1⟩ | ⟨a, e1⟩
  · rcases h2 with ⟨b, e2⟩ | ⟨b, e2⟩
    · exact e1.trans e2.symm
    · omega
  · rcases h2 with ⟨b, e2⟩ | ⟨b, e2⟩
    · omega
    · exact NV_u hf hD hc e1 e2
theorem CF_b {f : Nat → Int64} {m0 : Md} {x2 x4 x5 : Int32} {c : Nat} {z r : Int32} {R W D : Int} (hf : rw_ok R W D f) (hD : 0 < D) (hc : (c : Int) < R * W) (h : CF f m0 x2 x4 x5 c z r) : r = -1 ∨ (¬ r = -1 ∧ 0 ≤ r.toInt ∧ r.toInt < flF f c) := by
  obtain ⟨q0, q1, q2, q3, q4, q5⟩ := cl_f (c := c) hf hD hc
  have e : flF f c = d_f f (c_f f c 0).toNat := rfl
  rcases h with ⟨_, e1⟩ | ⟨_, e1⟩
  · subst e1
    have e0 : (0 : Int32).toInt = 0 := rfl
    exact Or.inr ⟨by decide, by decide, by rw [e0]; omega⟩
  · exact NV_b e1
theorem e0_cf {P : Int32 → Prop} {b : Bd} {t : Tp} {m0 : Md} {f : Nat → Int64} {x z x2 x4 x5 : Int32} {R W D : Int} (hf : rw_ok R W D f) (hD : 0 < D) (hB : RB b f) (hxx : RX t m0) (hx : 0 ≤ x.toInt ∧ x.toInt < R * W) (hz : 0 ≤ z.toInt ∧ z.toInt ≤ 100) (h2 : 0 ≤ x2.toInt ∧ x2.toInt ≤ 100) (h4 : 0 ≤ x4.toInt ∧ x4.toInt ≤ 400) (h : wp_X0_flapFor P b t x (z - x2) x4 x5) : ∃ r, P r ∧ CF f m0 x2 x4 x5 x.toInt.toNat z r := by
  have e0 : (0 : Int32).toInt = 0 := rfl
  have s := nw (tq_sub z x2) (by omega)
  by_cases c : z - x2 < 0
  · have := q_lt c
    unfold wp_X0_flapFor at h
    exact ⟨0, h.1 c, Or.inl ⟨Or.inl (by omega), rfl⟩⟩
  · have := q_nlt c
    have at_ := RB_x (c := x.toInt.toNat) hf hB (by omega)
    obtain ⟨r, p, g⟩ := flap6 (c := x.toInt.toNat) hf hD (RB_d hB) hxx (by omega) (by omega) at_.1 at_.2.2.1 at_.2.2.2.2.2.2.2 (by omega) (by omega) h4 h
    refine ⟨r, p, ?_⟩
    rcases g with ⟨g1, g2⟩ | ⟨g1, g2⟩
    · rw [s] at g2
      exact Or.inr ⟨by omega, g2⟩
    · exact Or.inl ⟨Or.inr (by omega), g2⟩
/-- a column of asks: what it adds -/
theorem e7_col {post : Md → Prop} {e : Md → Int32 → Int32 → Int32 → Int32 → Int32 → Prop} {m0 v : Md} {b : Bd} {x x2 x4 x5 z : Int32} {n : Nat} {R W D : Int} (hf : rw_ok R W D (v.2.2.1 0)) (hD : 0 < D) (hB : RB b (v.2.2.1 0)) {t : Tp} (hxx : RX t m0) (hv : v.2.2.2 2 = m0.2.2.2 2) (hx : 0 ≤ x.toInt ∧ x.toInt < R) (hz : 0 ≤ z.toInt ∧ z.toInt < W) (h2 : 0 ≤ x2.toInt ∧ x2.toInt ≤ 100) (h4 : 0 ≤ x4.toInt) (h5 : 0 ≤ x5.toInt) (h45 : x4.toInt + x5.toInt ≤ (m0.1 5).toInt) (hs : SG m0 x4 x5) (h : wp_X7_asks_L13 post e (n + 1) v x x2 x4 x5 z) : ∃ r, CF (v.2.2.1 0) m0 x2 x4 x5 (x * b.1 1 + z).toInt.toNat z r ∧ ((r = -1 ∧ wp_X7_asks_L13 post e n ((va_up v.1 4 ((v.1 4) + 1)), v.2.1, v.2.2.1, v.2.2.2) x x2 x4 x5 (z + 1)) ∨ (¬ r = -1 ∧ ∃ y : Int32, y.toInt = OT (v.2.2.1 0) (x * b.1 1 + z).toInt.toNat r.toInt ∧ wp_X7_asks_L13 post e n ((va_up v.1 3 ((v.1 3) + y)), v.2.1, v.2.2.1, v.2.2.2) x x2 x4 x5 (z + 1))) := by
  have e0 : (0 : Int32).toInt = 0 := rfl
  have hR := hf.2.2.2.2.2.1
  have rc := RB_cells hf hB
  have rn := rw_n hf
  have bx := hxx.2.2
  have ew : Int64.toInt32 (v.2.2.1 0 1) = b.1 1 := Int32.toInt_inj.mp (rn.2.1.trans rc.2.1.symm)
  have ix := cell_ix hf hB hx (z := z) hz
  obtain ⟨q0, q1, q2, q3, q4, q5⟩ := cl_f (c := (x * b.1 1 + z).toInt.toNat) hf hD (by omega)
  have ef : flF (v.2.2.1 0) (x * b.1 1 + z).toInt.toNat = d_f (v.2.2.1 0) (c_f (v.2.2.1 0) (x * b.1 1 + z).toInt.toNat 0).toNat := rfl
  unfold wp_X7_asks_L13 at h
  have h := wide_e h
  rw [ew] at h
  have h := wide_e (h.2 (fun c => by have := q_le c; omega))
  rw [ix.2] at h
  have a24 := nw (tq_add x2 x5) (by omega)
  have hom : ∀ (k : wp_X7_of (fun r_7 => wp_X7_flaps (fun r_9 => wp_X7_on (fun r_11 => wp_X7_asks_L13 post e n ((va_up v.1 3 ((v.1 3) + r_11)), v.2.1, v.2.2.1, v.2.2.2) x x2 x4 x5 (z + 1)) r_7 (0 : Int32) r_9) v (x * b.1 1 + z)) v (x * b.1 1 + z) (2 : Int32)), ∃ y : Int32, y.toInt = OT (v.2.2.1 0) (x * b.1 1 + z).toInt.toNat (0 : Int32).toInt ∧ wp_X7_asks_L13 post e n ((va_up v.1 3 ((v.1 3) + y)), v.2.1, v.2.2.1, v.2.2.2) x x2 x4 x5 (z + 1) := fun k => by
    obtain ⟨y, h, g⟩ := e7_on3 hf hD ix.1.1 ix.1.2 (fl := 0) ⟨by decide, by rw [e0]; omega⟩ k
    exact ⟨y, g, h⟩
  by_cases c : z < x2
  · have := q_lt c
    exact ⟨0, Or.inl ⟨Or.inl (by omega), rfl⟩, Or.inr ⟨by decide, hom (h.1 c)⟩⟩
  · have := q_nlt c
    have h := h.2 c
    by_cases c2 : x2 + x5 ≤ z
    · have := q_le c2
      exact ⟨0, Or.inl ⟨Or.inr (by omega), rfl⟩, Or.inr ⟨by decide, hom (h.1 c2)⟩⟩
    · have := q_nle c2
      have h := (h.2 c2).2
      obtain ⟨r, p, nv⟩ := near7 hf hD (RS_rf _ _) ix.1.1 ix.1.2 h
      have a1 := nw (tq_add x4 z) (by omega)
      have a2 := nw (tq_sub (x4 + z) x2) (by omega)
      have kq : (x4 + nI (z.toInt - x2.toInt).toNat).toInt = x4.toInt + (z.toInt - x2.toInt) := by
        rw [qk h4 (by omega) (by omega)]
        omega
      have ei : x4 + z - x2 = x4 + nI (z.toInt - x2.toInt).toNat := Int32.toInt_inj.mp (by omega)
      have sg : v.2.2.2 2 (Int32.toNatClampNeg (x4 + z - x2)) = tb7 m0 (x4 + nI (z.toInt - x2.toInt).toNat) := by
        rw [tb_sg hxx hs h4 h45 (k := (z.toInt - x2.toInt).toNat) (by omega), ei, hv]
      rw [sg] at nv
      refine ⟨r, Or.inr ⟨by omega, nv⟩, ?_⟩
      by_cases y : r = -1
      · exact Or.inl ⟨y, p.2 y⟩
      · rcases NV_b nv with g | g
        · exact (y g).elim
        · obtain ⟨w, h, g2⟩ := e7_on3 hf hD ix.1.1 ix.1.2 ⟨g.2.1, by rw [ef]; exact g.2.2⟩ (p.1 y)
          exact Or.inr ⟨y, w, g2, h⟩
theorem sm_cost_L {P6 : Int32 → Prop} {post : Md → Prop} {o m0 v0 : Md} {b : Bd} {t : Tp} {x x2 x4 x5 : Int32} {R W D : Int} (hf : rw_ok R W D (v0.2.2.1 0)) (hD : 0 < D) (hB : RB b (v0.2.2.1 0)) (hxx : RX t m0) (hv : v0.2.2.2 2 = m0.2.2.2 2) (hx : 0 ≤ x.toInt ∧ x.toInt < R) (h2 : 0 ≤ x2.toInt ∧ x2.toInt ≤ 100) (h4 : 0 ≤ x4.toInt) (h5 : 0 ≤ x5.toInt) (h45 : x4.toInt + x5.toInt ≤ (m0.1 5).toInt) (hs : SG m0 x4 x5) : ∀ (n6 n7 : Nat) (v : Md) (z : Int32), v.2 = v0.2 → 0 ≤ z.toInt → z.toInt ≤ W → wp_X0_costOf_L6 b t P6 (fun _ _ _ _ z6 _ => P6 z6) n6 x x2 x4 x5 (v.1 3) z → wp_X7_asks_L13 post (fun u _ _ _ _ _ => u = o) n7 v x x2 x4 x5 z → P6 (o.1 3) ∧ o.2 = v0.2 ∧ ie [3, 4] o.1 v.1 := by
  have e1 : (1 : Int32).toInt = 1 := rfl
  have hR := hf.2.2.2.2.2.1
  have rc := RB_cells hf hB
  have rn := rw_n hf
  have bx := hxx.2.2
  have ew : Int64.toInt32 (v0.2.2.1 0 1) = b.1 1 := Int32.toInt_inj.mp (rn.2.1.trans rc.2.1.symm)
  intro n6
  induction n6 with
  | zero =>
    intro n7 v z _ _ _ h
    exact (show False from h).elim
  | succ n6 ih =>
    intro n7 v z ev h0 h1 h6 h7
    have eg : v.2.2.1 0 = v0.2.2.1 0 := by rw [ev]
    cases n7 with
    | zero => exact (show False from h7).elim
    | succ n7 =>
      unfold wp_X0_costOf_L6 at h6
      by_cases c : b.1 1 ≤ z
      · unfold wp_X7_asks_L13 at h7
        have h7 := wide_e h7
        rw [eg, ew] at h7
        have h7 := h7.1 c
        rw [← h7]
        exact ⟨h6.1 c, ev, ie_refl _ _⟩
      · have := q_nle c
        have s := nw (tq_addr e1 z) (by omega)
        have ix := cell_ix hf hB hx (z := z) ⟨h0, by omega⟩
        obtain ⟨r6, h6, c6⟩ := e0_cf hf hD hB hxx ix.1 ⟨h0, by omega⟩ h2 (by omega) (h6.2 c)
        obtain ⟨r, c7, k7⟩ := e7_col (v := v) (b := b) (by rw [eg]; exact hf) hD (by rw [eg]; exact hB) hxx (by rw [ev]; exact hv) hx ⟨h0, by omega⟩ h2 h4 h5 h45 hs h7
        rw [eg] at c7 k7
        have er := CF_u hf hD (by omega) c6 c7
        subst er
        rcases k7 with ⟨y, h7⟩ | ⟨y, w, ew, h7⟩
        · have h6 := h6.2 y
          rw [Int32.add_zero] at h6
          obtain ⟨p1, p2, p3⟩ := ih n7 ((va_up v.1 4 ((v.1 4) + 1)), v.2.1, v.2.2.1, v.2.2.2) (z + 1) ev (by omega) (by omega) h6 h7
          exact ⟨p1, p2, ie_tr p3 (fun _ h => h) (ie_up (ie_refl _ _) (by decide))⟩
        · rcases CF_b hf hD (by omega) c6 with g | g
          · exact (y g).elim
          · obtain ⟨w6, h6, ew6⟩ := e0_onTo hf hD hB ix.1.1 ix.1.2 g.2 (h6.1 y)
            have e2 : w6 = w := Int32.toInt_inj.mp (ew6.trans ew.symm)
            subst e2
            obtain ⟨p1, p2, p3⟩ := ih n7 ((va_up v.1 3 ((v.1 3) + w6)), v.2.1, v.2.2.1, v.2.2.2) (z + 1) ev (by omega) (by omega) h6 h7
            exact ⟨p1, p2, ie_tr p3 (fun _ h => h) (ie_up (ie_refl _ _) (by decide))⟩
theorem sm_miss_L {P6 : Int32 → Prop} {post : Md → Prop} {o m0 v0 : Md} {b : Bd} {t : Tp} {x x2 x4 x5 : Int32} {R W D : Int} (hf : rw_ok R W D (v0.2.2.1 0)) (hD : 0 < D) (hB : RB b (v0.2.2.1 0)) (hxx : RX t m0) (hv : v0.2.2.2 2 = m0.2.2.2 2) (hx : 0 ≤ x.toInt ∧ x.toInt < R) (h2 : 0 ≤ x2.toInt ∧ x2.toInt ≤ 100) (h4 : 0 ≤ x4.toInt) (h5 : 0 ≤ x5.toInt) (h45 : x4.toInt + x5.toInt ≤ (m0.1 5).toInt) (hs : SG m0 x4 x5) : ∀ (n6 n7 : Nat) (v : Md) (z : Int32), v.2 = v0.2 → 0 ≤ z.toInt → z.toInt ≤ W → wp_X0_missesOf_L6 b t P6 (fun _ _ _ _ z6 _ => P6 z6) n6 x x2 x4 x5 (v.1 4) z → wp_X7_asks_L13 post (fun u _ _ _ _ _ => u = o) n7 v x x2 x4 x5 z → P6 (o.1 4) ∧ o.2 = v0.2 ∧ ie [3, 4] o.1 v.1 := by
  have e1 : (1 : Int32).toInt = 1 := rfl
  have hR := hf.2.2.2.2.2.1
  have rc := RB_cells hf hB
  have rn := rw_n hf
  have bx := hxx.2.2
  have ew : Int64.toInt32 (v0.2.2.1 0 1) = b.1 1 := Int32.toInt_inj.mp (rn.2.1.trans rc.2.1.symm)
  intro n6
  induction n6 with
  | zero =>
    intro n7 v z _ _ _ h
    exact (show False from h).elim
  | succ n6 ih =>
    intro n7 v z ev h0 h1 h6 h7
    have eg : v.2.2.1 0 = v0.2.2.1 0 := by rw [ev]
    cases n7 with
    | zero => exact (show False from h7).elim
    | succ n7 =>
      unfold wp_X0_missesOf_L6 at h6
      by_cases c : b.1 1 ≤ z
      · unfold wp_X7_asks_L13 at h7
        have h7 := wide_e h7
        rw [eg, ew] at h7
        have h7 := h7.1 c
        rw [← h7]
        exact ⟨h6.1 c, ev, ie_refl _ _⟩
      · have := q_nle c
        have s := nw (tq_addr e1 z) (by omega)
        have ix := cell_ix hf hB hx (z := z) ⟨h0, by omega⟩
        obtain ⟨r6, h6, c6⟩ := e0_cf hf hD hB hxx ix.1 ⟨h0, by omega⟩ h2 (by omega) (h6.2 c)
        obtain ⟨r, c7, k7⟩ := e7_col (v := v) (b := b) (by rw [eg]; exact hf) hD (by rw [eg]; exact hB) hxx (by rw [ev]; exact hv) hx ⟨h0, by omega⟩ h2 h4 h5 h45 hs h7
        rw [eg] at c7 k7
        have er := CF_u hf hD (by omega) c6 c7
        subst er
        rcases k7 with ⟨y, h7⟩ | ⟨y, w, ew, h7⟩
        · obtain ⟨p1, p2, p3⟩ := ih n7 ((va_up v.1 4 ((v.1 4) + 1)), v.2.1, v.2.2.1, v.2.2.2) (z + 1) ev (by omega) (by omega) (h6.2 y) h7
          exact ⟨p1, p2, ie_tr p3 (fun _ h => h) (ie_up (ie_refl _ _) (by decide))⟩
        · obtain ⟨p1, p2, p3⟩ := ih n7 ((va_up v.1 3 ((v.1 3) + w)), v.2.1, v.2.2.1, v.2.2.2) (z + 1) ev (by omega) (by omega) (h6.1 y) h7
          exact ⟨p1, p2, ie_tr p3 (fun _ h => h) (ie_up (ie_refl _ _) (by decide))⟩
/-- asks: what both count -/
theorem sm_asks {Pc : Int32 → Prop} {P7 : Md → Prop} {m0 v : Md} {b : Bd} {t : Tp} {x x2 x4 x5 : Int32} {R W D : Int} (hf : rw_ok R W D (v.2.2.1 0)) (hD : 0 < D) (hB : RB b (v.2.2.1 0)) (hxx : RX t m0) (hv : v.2.2.2 2 = m0.2.2.2 2) (hx : 0 ≤ x.toInt ∧ x.toInt < R) (h2 : 0 ≤ x2.toInt ∧ x2.toInt ≤ 100) (h4 : 0 ≤ x4.toInt) (h5 : 0 ≤ x5.toInt) (h45 : x4.toInt + x5.toInt ≤ (m0.1 5).toInt) (hs : SG m0 x4 x5) (hc : wp_X0_costOf Pc b t x x2 x4 x5) (h7 : wp_X7_asks P7 v x x2 x4 x5) : ∃ u, Pc (u.1 3) ∧ P7 u ∧ (u.2 = v.2 ∧ ie [3, 4] u.1 v.1) ∧ (∀ Pm : Int32 → Prop, wp_X0_missesOf Pm b t x x2 x4 x5 → Pm (u.1 4)) := by
  have hR := hf.2.2.2.2.2.1
  obtain ⟨o, h7, z⟩ := fz1 (dt_X7_asks v x x2 x4 x5) h7
  unfold wp_X7_asks at z
  obtain ⟨n7, z⟩ := z
  unfold wp_X0_costOf at hc
  obtain ⟨n6, hc⟩ := hc
  obtain ⟨c1, c2, c3⟩ := sm_cost_L (v0 := v) hf hD hB hxx hv hx h2 h4 h5 h45 hs n6 n7 ((va_up (va_up v.1 3 0) 4 0), v.2.1, v.2.2.1, v.2.2.2) 0 rfl (by decide) (by show (0 : Int) ≤ W; omega) hc z
  refine ⟨o, c1, h7, ⟨c2, ie_tr c3 (fun _ h => h) (ie_up (ie_up (ie_refl _ _) (by decide)) (by decide))⟩, fun Pm hm => ?_⟩
  unfold wp_X0_missesOf at hm
  obtain ⟨n8, hm⟩ := hm
  exact (sm_miss_L (v0 := v) hf hD hB hxx hv hx h2 h4 h5 h45 hs n8 n7 ((va_up (va_up v.1 3 0) 4 0), v.2.1, v.2.2.1, v.2.2.2) 0 rfl (by decide) (by show (0 : Int) ≤ W; omega) hm z).1
