/-! farthest. -/
theorem nI_t9 {k : Nat} (h : k ≤ 68960) : (nI k).toInt = (k : Int) := nI_i h
def SF (f : Nat → Int64) (c d g : Nat) : Prop := NV f c (gs f d g) (nI g)
def FAR (f : Nat → Int64) (c d : Nat) (r q : Int32) : Prop := (r = -1 ∧ q = -1 ∧ ∀ g : Nat, (g : Int) < d_f f d → ¬ SF f c d g) ∨ (∃ k : Nat, (k : Int) < d_f f d ∧ SF f c d k ∧ r.toInt = OT f c (k : Int) ∧ q = gs f d k ∧ ∀ g : Nat, (g : Int) < d_f f d → SF f c d g → OT f c (g : Int) ≤ OT f c (k : Int))
theorem OT_d (f : Nat → Int64) (c : Nat) (k : Int) : (c_f f c 2 ≤ k ∧ OT f c k = k - c_f f c 2) ∨ (k < c_f f c 2 ∧ OT f c k = k - c_f f c 2 + flF f c) := by
  unfold OT
  by_cases h : c_f f c 2 ≤ k
  · rw [if_pos h]
    exact Or.inl ⟨h, rfl⟩
  · rw [if_neg h]
    exact Or.inr ⟨by omega, rfl⟩
theorem FAR_u {f : Nat → Int64} {c d : Nat} {r q r' q' : Int32} (hF : flF f c = d_f f d) (hb : 0 ≤ c_f f c 2 ∧ c_f f c 2 < d_f f d) (h1 : FAR f c d r q) (h2 : FAR f c d r' q') : r = r' ∧ q = q' := by
  rcases h1 with ⟨a1, a2, a3⟩ | ⟨k, a1, a2, a3, a4, a5⟩
  · rcases h2 with ⟨b1, b2, b3⟩ | ⟨j, b1, b2, b3, b4, b5⟩
    · exact ⟨a1.trans b1.symm, a2.trans b2.symm⟩
    · exact absurd b2 (a3 j b1)
  · rcases h2 with ⟨b1, b2, b3⟩ | ⟨j, b1, b2, b3, b4, b5⟩
    · exact absurd a2 (b3 k a1)
    · have u1 := a5 j b1 b2
      have u2 := b5 k a1 a2
      have o1 := OT_d f c (k : Int)
      have o2 := OT_d f c (j : Int)
      have e : k = j := by omega
      subst e
      exact ⟨Int32.toInt_inj.mp (a3.trans b3.symm), a4.trans b4.symm⟩
def FA6 (f : Nat → Int64) (c d : Nat) (r q : Int32) (z : Int) : Prop := (r = -1 ∧ q = -1 ∧ ∀ g : Nat, (g : Int) < z → ¬ SF f c d g) ∨ (∃ k : Nat, (k : Int) < z ∧ SF f c d k ∧ r.toInt = OT f c (k : Int) ∧ q = gs f d k ∧ ∀ g : Nat, (g : Int) < z → SF f c d g → OT f c (g : Int) ≤ OT f c (k : Int))
theorem e6_far_L {P : Int32 → Prop} {E : Int32 → Int32 → Int32 → Int32 → Int32 → Prop} {b : Bd} {f : Nat → Int64} {x z2 : Int32} {c d : Nat} {R W D : Int} (hf : rw_ok R W D f) (hD : 0 < D) (hB : RB b f) (hx : x.toInt = (c : Int)) (hc : (c : Int) < R * W) (hd : (c_f f c 0).toNat = d) : ∀ (n : Nat) (z3 z4 z5 : Int32), 0 ≤ z5.toInt → z5.toInt ≤ d_f f d → FA6 f c d z3 z4 z5.toInt → wp_X6_farthest_L30 b P E n x z2 z3 z4 z5 → ∃ r q z, E x z2 r q z ∧ FAR f c d r q := by
  have e1 : (1 : Int32).toInt = 1 := rfl
  have em : (-1 : Int32).toInt = -1 := rfl
  have ex : x.toInt.toNat = c := by omega
  have hR := hf.2.2.2.2.2.1
  obtain ⟨q0, q1, q2, q3, q4, q5⟩ := cl_f (c := c) hf hD hc
  rw [hd] at q1 q2 q3 q4
  have hX : DX b f d := DX_of hf hB (by omega)
  have hF : flF f c = d_f f d := by
    unfold flF
    rw [hd]
  have at_ := RB_x (c := c) hf hB hc
  have td : (b.2.1 3 c).toInt = (d : Int) := by
    rw [at_.1, t32 (by unfold c_f at q0; omega)]
    unfold c_f at hd q0
    omega
  intro n
  induction n with
  | zero =>
    intro z3 z4 z5 _ _ _ h
    exact (show False from h).elim
  | succ n ih =>
    intro z3 z4 z5 a1 a2 hI h
    unfold wp_X6_farthest_L30 at h
    obtain ⟨F, h, eF, _⟩ := e0_flF hf hD hB (by omega) (by omega) h
    rw [ex, hF] at eF
    by_cases g : F ≤ z5
    · have := q_le g
      have ez : z5.toInt = d_f f d := by omega
      rw [ez] at hI
      exact ⟨z3, z4, z5, h.1 g, hI⟩
    · have := q_nle g
      have s5 := nw (tq_addr e1 z5) (by omega)
      have e5 : nI z5.toInt.toNat = z5 := nI_tn a1
      have k5 : ((z5.toInt.toNat : Nat) : Int) = z5.toInt := by omega
      obtain ⟨r9, h, q9⟩ := e0_onTo hf hD hB (by omega) (by omega) (by rw [ex, hF]; omega) (h.2 g)
      rw [ex] at q9
      unfold wp_X0_signOn at h
      have h := h.2
      rw [tn_i, ex] at h
      have h := e0_sgD hX td (y := z5) (by omega) h
      have o5 := OT_d f c z5.toInt
      have skip : (SF f c d z5.toInt.toNat → r9.toInt ≤ z3.toInt) → wp_X6_farthest_L30 b P E n x z2 z3 z4 (z5 + 1) → ∃ r q z, E x z2 r q z ∧ FAR f c d r q := by
        intro hs h
        refine ih z3 z4 (z5 + 1) (by omega) (by omega) ?_ h
        rcases hI with ⟨a, b', c'⟩ | ⟨k, k1, k2, k3, k4, k6⟩
        · refine Or.inl ⟨a, b', fun y hy sy => ?_⟩
          by_cases yz : (y : Int) < z5.toInt
          · exact c' y yz sy
          · have ey : y = z5.toInt.toNat := by omega
            rw [ey] at sy
            have := hs sy
            rw [a] at this
            omega
        · refine Or.inr ⟨k, by omega, k2, k3, k4, fun y hy sy => ?_⟩
          by_cases yz : (y : Int) < z5.toInt
          · exact k6 y yz sy
          · have ey : y = z5.toInt.toNat := by omega
            rw [ey] at sy ⊢
            have := hs sy
            rw [k5]
            omega
      by_cases c9 : r9 ≤ z3
      · have := q_le c9
        exact skip (fun _ => this) (h.1 c9)
      · have := q_nle c9
        obtain ⟨r14, h, nv⟩ := near6 hf hD (RB_d hB) (by omega) (by omega) (by rw [ex]; exact at_.1) (by rw [ex]; exact at_.2.2.1) (by rw [ex]; exact at_.2.2.2.2.2.2.2) (h.2 c9)
        rw [ex] at nv
        by_cases c14 : r14 = z5
        · rw [c14] at nv
          have sf : SF f c d z5.toInt.toNat := by
            unfold SF
            rw [e5]
            exact nv
          refine ih r9 (gs f d z5.toInt.toNat) (z5 + 1) (by omega) (by omega) (Or.inr ⟨z5.toInt.toNat, by omega, sf, by rw [k5]; exact q9, rfl, fun y hy sy => ?_⟩) (h.2 c14)
          rw [k5]
          by_cases yz : (y : Int) < z5.toInt
          · rcases hI with ⟨_, _, c'⟩ | ⟨k, k1, k2, k3, k4, k6⟩
            · exact absurd sy (c' y yz)
            · have := k6 y yz sy
              omega
          · have ey : (y : Int) = z5.toInt := by omega
            rw [ey]
            exact Int.le_refl _
        · refine skip (fun sf => ?_) (h.1 c14)
          unfold SF at sf
          rw [e5] at sf
          exact absurd (NV_u hf hD hc nv sf) c14
def FA7 (f : Nat → Int64) (c d : Nat) (r q : Int32) (z : Int) : Prop := (r = -1 ∧ q = -1 ∧ ∀ s : Int32, 32 ≤ s.toInt → s.toInt < z → NV f c s (-1)) ∨ (∃ k : Nat, (k : Int) < d_f f d ∧ SF f c d k ∧ r.toInt = OT f c (k : Int) ∧ q = gs f d k ∧ ∀ s : Int32, 32 ≤ s.toInt → s.toInt < z → ∀ g : Nat, (g : Int) < d_f f d → NV f c s (nI g) → OT f c (g : Int) ≤ OT f c (k : Int))
theorem FA7_e {f : Nat → Int64} {c d : Nat} {r q : Int32} {R W D : Int} (hf : rw_ok R W D f) (hD : 0 < D) (hc : (c : Int) < R * W) (hG : DG f d) (h : FA7 f c d r q 127) : FAR f c d r q := by
  rcases h with ⟨a, b, e⟩ | ⟨k, k1, k2, k3, k4, k5⟩
  · refine Or.inl ⟨a, b, fun g hg sg => ?_⟩
    have gb := gs_b hG hg
    have := NV_u hf hD hc (e (gs f d g) gb.1 (by omega)) sg
    have t := nI_t9 (k := g) (by have := hG.1; omega)
    rw [← this] at t
    have em : (-1 : Int32).toInt = -1 := rfl
    omega
  · refine Or.inr ⟨k, k1, k2, k3, k4, fun g hg sg => ?_⟩
    have gb := gs_b hG hg
    exact k5 (gs f d g) gb.1 (by omega) g hg sg
theorem NV_sg {f : Nat → Int64} {c d : Nat} {s r : Int32} (hd : (c_f f c 0).toNat = d) (h0 : ¬ r = -1) (h : NV f c s r) : gs f d r.toInt.toNat = s := by
  rcases h with ⟨a, _⟩ | ⟨_, _, a, _⟩
  · exact absurd a h0
  · rw [hd] at a
    exact a.1
theorem e7_far_L {P : Int32 → Prop} {E : Int32 → Int32 → Int32 → Int32 → Int32 → Prop} {m : Md} {x z2 : Int32} {c d : Nat} {R W D : Int} (hf : rw_ok R W D (m.2.2.1 0)) (hD : 0 < D) (hx : x.toInt = (c : Int)) (hc : (c : Int) < R * W) (hd : (c_f (m.2.2.1 0) c 0).toNat = d) (hG : DG (m.2.2.1 0) d) : ∀ (n : Nat) (z3 z4 z5 : Int32), 32 ≤ z5.toInt → z5.toInt ≤ 127 → FA7 (m.2.2.1 0) c d z3 z4 z5.toInt → wp_X7_farthest_L29 m P E n x z2 z3 z4 z5 → ∃ r q z, E x z2 r q z ∧ FAR (m.2.2.1 0) c d r q := by
  have e1 : (1 : Int32).toInt = 1 := rfl
  have em : (-1 : Int32).toInt = -1 := rfl
  have e127 : (127 : Int32).toInt = 127 := rfl
  have ex : x.toInt.toNat = c := by omega
  have hR := hf.2.2.2.2.2.1
  obtain ⟨q0, q1, q2, q3, q4, q5⟩ := cl_f (c := c) hf hD hc
  rw [hd] at q1 q2 q3 q4
  have hF : flF (m.2.2.1 0) c = d_f (m.2.2.1 0) d := by
    unfold flF
    rw [hd]
  intro n
  induction n with
  | zero =>
    intro z3 z4 z5 _ _ _ h
    exact (show False from h).elim
  | succ n ih =>
    intro z3 z4 z5 a1 a2 hI h
    unfold wp_X7_farthest_L29 at h
    by_cases g : 127 ≤ z5
    · have := q_le g
      have ez : z5.toInt = 127 := by omega
      rw [ez] at hI
      exact ⟨z3, z4, z5, h.1 g, FA7_e hf hD hc hG hI⟩
    · have := q_nle g
      have s5 := nw (tq_addr e1 z5) (by omega)
      obtain ⟨r8, h, nv⟩ := near7 hf hD (RS_rf _ _) (by omega) (by omega) (h.2 g)
      rw [ex] at nv
      by_cases c8 : r8 = -1
      · rw [c8] at nv
        refine ih z3 z4 (z5 + 1) (by omega) (by omega) ?_ (h.1 c8)
        rcases hI with ⟨a, b, e⟩ | ⟨k, k1, k2, k3, k4, k5⟩
        · refine Or.inl ⟨a, b, fun s h1 h2 => ?_⟩
          by_cases ys : s.toInt < z5.toInt
          · exact e s h1 ys
          · have es : s = z5 := Int32.toInt_inj.mp (by omega)
            rw [es]
            exact nv
        · refine Or.inr ⟨k, k1, k2, k3, k4, fun s h1 h2 y hy ny => ?_⟩
          by_cases ys : s.toInt < z5.toInt
          · exact k5 s h1 ys y hy ny
          · have es : s = z5 := Int32.toInt_inj.mp (by omega)
            rw [es] at ny
            have e := NV_u hf hD hc nv ny
            have t := nI_t9 (k := y) (by have := hG.1; omega)
            rw [← e] at t
            omega
      · have h := h.2 c8
        have sg := NV_sg hd c8 nv
        rcases NV_b nv with y | ⟨_, b1, b2⟩
        · exact absurd y c8
        rw [hd] at b2
        have e8 : nI r8.toInt.toNat = r8 := nI_tn b1
        have k8 : ((r8.toInt.toNat : Nat) : Int) = r8.toInt := by omega
        have sf : SF (m.2.2.1 0) c d r8.toInt.toNat := by
          unfold SF
          rw [e8, sg]
          exact nv
        have uq : ∀ y : Nat, (y : Int) < d_f (m.2.2.1 0) d → NV (m.2.2.1 0) c z5 (nI y) → (y : Int) = r8.toInt := fun y hy ny => by
          have e := NV_u hf hD hc nv ny
          have t := nI_t9 (k := y) (by have := hG.1; omega)
          rw [← e] at t
          omega
        obtain ⟨r15, h, q15⟩ := e7_on3 hf hD (by omega) (by omega) (by rw [ex, hF]; omega) h
        rw [ex] at q15
        have o8 := OT_d (m.2.2.1 0) c r8.toInt
        by_cases c15 : z3 < r15
        · have := q_lt c15
          obtain ⟨r22, h, q22⟩ := e7_on3 hf hD (by omega) (by omega) (by rw [ex, hF]; omega) (h.1 c15)
          rw [ex] at q22
          refine ih r22 z5 (z5 + 1) (by omega) (by omega) (Or.inr ⟨r8.toInt.toNat, by omega, sf, by rw [k8]; exact q22, sg.symm, fun s h1 h2 y hy ny => ?_⟩) h
          rw [k8]
          by_cases ys : s.toInt < z5.toInt
          · rcases hI with ⟨_, _, e⟩ | ⟨k, k1, k2, k3, k4, k5⟩
            · have e := NV_u hf hD hc (e s h1 ys) ny
              have t := nI_t9 (k := y) (by have := hG.1; omega)
              rw [← e] at t
              omega
            · have := k5 s h1 ys y hy ny
              omega
          · have es : s = z5 := Int32.toInt_inj.mp (by omega)
            rw [es] at ny
            rw [uq y hy ny]
            exact Int.le_refl _
        · have := q_nlt c15
          refine ih z3 z4 (z5 + 1) (by omega) (by omega) ?_ (h.2 c15)
          rcases hI with ⟨a, b, e⟩ | ⟨k, k1, k2, k3, k4, k5⟩
          · rw [a] at this
            omega
          · refine Or.inr ⟨k, k1, k2, k3, k4, fun s h1 h2 y hy ny => ?_⟩
            by_cases ys : s.toInt < z5.toInt
            · exact k5 s h1 ys y hy ny
            · have es : s = z5 := Int32.toInt_inj.mp (by omega)
              rw [es] at ny
              rw [uq y hy ny]
              omega
theorem sq_farthest {P6 P7 : Int32 → Prop} {s2 : Bd} {m : Md} {x1 x2 : Int32} {N R W D : Int} (hB : RB s2 (m.2.2.1 0)) (hM : mb N R W D m) (hs : R ≤ 0 ∨ 0 < D) (h6 : wp_X6_farthest P6 s2 x1 x2) (h7 : wp_X7_farthest P7 m x1 x2) : ∃ r, P6 r ∧ P7 r := by
  have e0 : (0 : Int32).toInt = 0 := rfl
  have e1 : (1 : Int32).toInt = 1 := rfl
  have e32 : (32 : Int32).toInt = 32 := rfl
  have hf := hM.2.2.2.2.1
  have hR := hf.2.2.2.2.2.1
  have rc := RB_cells hf hB
  unfold wp_X6_farthest at h6
  unfold wp_X7_farthest at h7
  rcases e0_hasCell rc.2.2.1 h6 with ⟨h6, g1, g2⟩ | ⟨h6, g⟩
  · rcases e7_isCell hf h7 with ⟨h7, _, _⟩ | ⟨_, g⟩
    · have h6 := h6.2 (by decide)
      have h7 := h7.2 (by decide)
      have hD := cells_D hf hs g1 g2
      rcases e7_inC (i := 0) (j := 1) rfl rfl h7 with ⟨h7, j1, j2⟩ | ⟨h7, j⟩
      · obtain ⟨n6, h6⟩ := (h6.2 (fun c => by have := q_lt c; omega)).1 (Int32.le_iff_toInt_le.mpr (by omega))
        obtain ⟨n7, h7⟩ := h7.1 (by decide)
        obtain ⟨q0, q1, q2, q3, q4, q5⟩ := cl_f (c := x1.toInt.toNat) hf hD (by omega)
        have hX := DX_of (d := (c_f (m.2.2.1 0) x1.toInt.toNat 0).toNat) hf hB (by omega)
        obtain ⟨r, q, z, h6, f6⟩ := e6_far_L (c := x1.toInt.toNat) hf hD hB (by omega) (by omega) rfl n6 (-1) (-1) 0 (by decide) (by omega) (Or.inl ⟨rfl, rfl, fun g hg => by omega⟩) h6
        obtain ⟨r', q', z', h7, f7⟩ := e7_far_L (c := x1.toInt.toNat) hf hD (by omega) (by omega) rfl hX.2.2.2.2.1 n7 (-1) (-1) 32 (by decide) (by decide) (Or.inl ⟨rfl, rfl, fun s h1 h2 => by omega⟩) h7
        obtain ⟨e, e'⟩ := FAR_u rfl q3 f6 f7
        subst e
        subst e'
        by_cases c0 : x2 = 0
        · exact ⟨r, h6.2 c0, h7.2 c0⟩
        · exact ⟨q, h6.1 c0, h7.1 c0⟩
      · have h7 := h7.2 rfl
        by_cases c : x2 < 0
        · exact ⟨_, h6.1 c, h7⟩
        · have := q_nlt c
          exact ⟨_, (h6.2 c).2 (fun c => by have := q_le c; omega), h7⟩
    · omega
  · rcases e7_isCell hf h7 with ⟨_, _, _⟩ | ⟨h7, _⟩
    · omega
    · exact ⟨_, h6.1 rfl, h7.1 rfl⟩
