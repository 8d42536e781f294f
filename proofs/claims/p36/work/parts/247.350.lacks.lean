/-! lacks. -/
def hsw (g : Nat → Int32) (wn : Int64) (sg : Int32) : Nat → Bool
  | 0 => false
  | n + 1 => (decide (g n = sg) && !bs_at wn n) || hsw g wn sg n
theorem hsw_t {g : Nat → Int32} {wn : Int64} {sg : Int32} : ∀ n, hsw g wn sg n = true ↔ ∃ k, k < n ∧ g k = sg ∧ bs_at wn k = false := by
  intro n
  induction n with
  | zero => exact ⟨fun h => (by cases h), fun ⟨k, h, _⟩ => (by omega)⟩
  | succ n ih =>
    show ((decide (g n = sg) && !bs_at wn n) || hsw g wn sg n) = true ↔ _
    rw [Bool.or_eq_true, ih, Bool.and_eq_true]
    constructor
    · rintro (⟨a, b⟩ | ⟨k, h1, h2⟩)
      · refine ⟨n, by omega, of_decide_eq_true a, ?_⟩
        cases e : bs_at wn n with
        | false => rfl
        | true =>
          rw [e] at b
          cases b
      · exact ⟨k, by omega, h2⟩
    · rintro ⟨k, h1, h2, h3⟩
      by_cases e : k = n
      · subst e
        exact Or.inl ⟨decide_eq_true h2, by rw [h3]; rfl⟩
      · exact Or.inr ⟨k, by omega, h2, h3⟩
/-- 1: a cell misses the sign -/
def wls (f : Nat → Int64) (c d : Nat) (sg : Int32) : Nat := if hsw (gs f d) (f (176 + 8 * c + 7)) sg (d_f f d).toNat = true then 0 else 1
theorem NV_wls {f : Nat → Int64} {c d : Nat} {sg r : Int32} (hd : (c_f f c 0).toNat = d) (h : NV f c sg r) : (r = -1 ∧ wls f c d sg = 1) ∨ (¬ r = -1 ∧ wls f c d sg = 0) := by
  unfold wls
  rcases h with ⟨a, b⟩ | ⟨a1, a2, a3, _⟩
  · refine Or.inl ⟨a, ?_⟩
    rw [if_neg]
    intro g
    obtain ⟨k, k1, k2, k3⟩ := (hsw_t _).mp g
    rw [hd] at b
    exact b k (by omega) ⟨k2, k3⟩
  · refine Or.inr ⟨fun g => ?_, ?_⟩
    · rw [g] at a1
      exact absurd a1 (by decide)
    · rw [hd] at a2 a3
      rw [if_pos]
      exact (hsw_t _).mpr ⟨r.toInt.toNat, by omega, a3.1, a3.2⟩
def mls (f : Nat → Int64) (c d k : Nat) : Nat := if cg (gs f d) (gs f d k) (k + 1) ((d_f f d).toNat - (k + 1)) = 0 then wls f c d (gs f d k) else 0
theorem e0_mis_L {s : Bd} {f : Nat → Int64} {P : Int32 → Prop} {c d : Nat} {z1 z2 : Int32} {R W D : Int} (hf : rw_ok R W D f) (hD : 0 < D) (hB : RB s f) (hx : z1.toInt = (c : Int)) (hc : (c : Int) < R * W) (hd : (c_f f c 0).toNat = d) (h2 : z2.toInt = (d : Int)) (hX : DX s f d) : ∀ (n : Nat) (z3 z4 : Int32), 0 ≤ z4.toInt → z4.toInt ≤ d_f f d → 0 ≤ z3.toInt → z3.toInt ≤ z4.toInt → wp_X0_missedOfOwn_L12 s P (fun _ _ z3 _ => P z3) n z1 z2 z3 z4 → ∃ r, P r ∧ r.toInt = z3.toInt + (sm (mls f c d) z4.toInt.toNat ((d_f f d).toNat - z4.toInt.toNat) : Nat) := by
  have e1 : (1 : Int32).toInt = 1 := rfl
  have x4 := hX.2.2.2.1
  have ex : z1.toInt.toNat = c := by omega
  have at_ := RB_x (c := c) hf hB hc
  intro n
  induction n with
  | zero =>
    intro z3 z4 _ _ _ _ h
    exact (show False from h).elim
  | succ n ih =>
    intro z3 z4 a1 a2 a3 a4 h
    unfold wp_X0_missedOfOwn_L12 at h
    obtain ⟨F, h, eF⟩ := e0_flD hX h2 h
    by_cases g : F ≤ z4
    · have := q_le g
      refine ⟨z3, h.1 g, ?_⟩
      rw [show (d_f f d).toNat - z4.toInt.toNat = 0 by omega]
      show z3.toInt = z3.toInt + ((0 : Nat) : Int)
      omega
    · have := q_nle g
      have s3 := nw (tq_addr e1 z3) (by omega)
      have s4 := nw (tq_addr e1 z4) (by omega)
      have e4 : (z4 + 1).toInt.toNat = z4.toInt.toNat + 1 := by omega
      have en : (d_f f d).toNat - z4.toInt.toNat = ((d_f f d).toNat - (z4.toInt.toNat + 1)) + 1 := by omega
      rw [en]
      show ∃ r, P r ∧ r.toInt = z3.toInt + (((if cg (gs f d) (gs f d z4.toInt.toNat) (z4.toInt.toNat + 1) ((d_f f d).toNat - (z4.toInt.toNat + 1)) = 0 then wls f c d (gs f d z4.toInt.toNat) else 0) + sm (mls f c d) (z4.toInt.toNat + 1) ((d_f f d).toNat - (z4.toInt.toNat + 1)) : Nat) : Int)
      rcases e0_lastD hX h2 (y := z4) (by omega) (h.2 g) with ⟨h, l⟩ | ⟨h, l⟩
      · have h := e0_sgD hX h2 (y := z4) (by omega) (h.2 (by decide))
        obtain ⟨r, h, nv⟩ := near6 hf hD (RB_d hB) (by omega) (by omega) (by rw [ex]; exact at_.1) (by rw [ex]; exact at_.2.2.1) (by rw [ex]; exact at_.2.2.2.2.2.2.2) h
        rw [ex] at nv
        rw [if_pos l]
        rcases NV_wls hd nv with ⟨y, w⟩ | ⟨y, w⟩
        · obtain ⟨r, p, q⟩ := ih (z3 + 1) (z4 + 1) (by omega) (by omega) (by omega) (by omega) (h.2 y)
          rw [e4] at q
          exact ⟨r, p, by omega⟩
        · obtain ⟨r, p, q⟩ := ih z3 (z4 + 1) (by omega) (by omega) (by omega) (by omega) (h.1 y)
          rw [e4] at q
          exact ⟨r, p, by omega⟩
      · obtain ⟨r, p, q⟩ := ih z3 (z4 + 1) (by omega) (by omega) (by omega) (by omega) (h.1 rfl)
        rw [e4] at q
        rw [if_neg l]
        exact ⟨r, p, by omega⟩
def m8s (f : Nat → Int64) (c d i : Nat) : Nat := if cg (gs f d) (nI i) 0 (d_f f d).toNat = 0 then 0 else wls f c d (nI i)
theorem e7_drum {P : Int32 → Prop} {m : Md} {x : Int32} {c d : Nat} {R W D : Int} (hf : rw_ok R W D (m.2.2.1 0)) (hD : 0 < D) (hx : x.toInt = (c : Int)) (hc : (c : Int) < R * W) (hd : (c_f (m.2.2.1 0) c 0).toNat = d) (h : wp_X7_of P m x 0) : ∃ r, P r ∧ r.toInt = (d : Int) := by
  have hR := hf.2.2.2.2.2.1
  have ex : x.toInt.toNat = c := by omega
  obtain ⟨q0, _⟩ := cl_f (c := c) hf hD hc
  have h := e7_of (i := 0) (by omega) (by omega) rfl (by decide) h
  rw [ex] at h
  refine ⟨_, h, ?_⟩
  have z := c32 (j := 0) hf hD hc (by decide)
  omega
theorem e7_lk0_L {s : Bd} {m : Md} {P : Int32 → Prop} {c d : Nat} {z1 : Int32} {R W D : Int} (hf : rw_ok R W D (m.2.2.1 0)) (hD : 0 < D) (hx : z1.toInt = (c : Int)) (hc : (c : Int) < R * W) (hd : (c_f (m.2.2.1 0) c 0).toNat = d) (hX : DX s (m.2.2.1 0) d) : ∀ (n : Nat) (z3 z4 : Int32), 0 ≤ z4.toInt → z4.toInt ≤ 127 → 0 ≤ z3.toInt → z3.toInt ≤ z4.toInt → wp_X7_lacks_L26 m P (fun _ _ z3 _ => P z3) n z1 0 z3 z4 → ∃ r, P r ∧ r.toInt = z3.toInt + (sm (m8s (m.2.2.1 0) c d) z4.toInt.toNat (127 - z4.toInt.toNat) : Nat) := by
  have e1 : (1 : Int32).toInt = 1 := rfl
  have e0 : (0 : Int32).toInt = 0 := rfl
  have e127 : (127 : Int32).toInt = 127 := rfl
  have ex : z1.toInt.toNat = c := by omega
  intro n
  induction n with
  | zero =>
    intro z3 z4 _ _ _ _ h
    exact (show False from h).elim
  | succ n ih =>
    intro z3 z4 a1 a2 a3 a4 h
    unfold wp_X7_lacks_L26 at h
    by_cases g : 127 ≤ z4
    · have := q_le g
      refine ⟨z3, h.1 g, ?_⟩
      rw [show 127 - z4.toInt.toNat = 0 by omega]
      show z3.toInt = z3.toInt + ((0 : Nat) : Int)
      omega
    · have := q_nle g
      have s3 := nw (tq_addr e1 z3) (by omega)
      have s4 := nw (tq_addr e1 z4) (by omega)
      have e4 : (z4 + 1).toInt.toNat = z4.toInt.toNat + 1 := by omega
      have en : 127 - z4.toInt.toNat = (127 - (z4.toInt.toNat + 1)) + 1 := by omega
      obtain ⟨r8, h, q8⟩ := e7_drum hf hD hx hc hd (h.2 g)
      obtain ⟨r10, h, q10⟩ := e7_mwD hX q8 h
      rw [en]
      show ∃ r, P r ∧ r.toInt = z3.toInt + (((if cg (gs (m.2.2.1 0) d) (nI z4.toInt.toNat) 0 (d_f (m.2.2.1 0) d).toNat = 0 then 0 else wls (m.2.2.1 0) c d (nI z4.toInt.toNat)) + sm (m8s (m.2.2.1 0) c d) (z4.toInt.toNat + 1) (127 - (z4.toInt.toNat + 1)) : Nat) : Int)
      rw [nI_tn a1]
      by_cases u : r10 ≤ 0
      · have := q_le u
        have h := (h.1 u).2 rfl
        rw [Int32.add_zero] at h
        obtain ⟨r, p, q⟩ := ih z3 (z4 + 1) (by omega) (by omega) (by omega) (by omega) h
        rw [e4] at q
        rw [if_pos (by omega)]
        exact ⟨r, p, by omega⟩
      · have := q_nle u
        have h := (h.2 u).2 rfl
        obtain ⟨r20, h, nv⟩ := near7 hf hD (RS_rf _ _) (by omega) (by omega) h
        rw [ex] at nv
        rw [if_neg (by omega)]
        rcases NV_wls hd nv with ⟨y, w⟩ | ⟨y, w⟩
        · obtain ⟨r, p, q⟩ := ih (z3 + 1) (z4 + 1) (by omega) (by omega) (by omega) (by omega) (h.2 y)
          rw [e4] at q
          exact ⟨r, p, by omega⟩
        · have h := h.1 y
          rw [Int32.add_zero] at h
          obtain ⟨r, p, q⟩ := ih z3 (z4 + 1) (by omega) (by omega) (by omega) (by omega) h
          rw [e4] at q
          exact ⟨r, p, by omega⟩
/-- the drum has the sign -/
def HD (f : Nat → Int64) (d : Nat) (sg : Int32) : Prop := 0 < cg (gs f d) sg 0 (d_f f d).toNat
theorem e0_hasD {P : Int32 → Prop} {s : Bd} {f : Nat → Int64} {x sg : Int32} {d : Nat} (hX : DX s f d) (hx : x.toInt = (d : Int)) (h : wp_X0_drumHas P s x sg) : (P 1 ∧ HD f d sg) ∨ (P 0 ∧ ¬ HD f d sg) := by
  have e0 : (0 : Int32).toInt = 0 := rfl
  have x4 := hX.2.2.2.1
  unfold wp_X0_drumHas at h
  obtain ⟨r, h, q⟩ := e0_fwD hX hx (y := 0) (by omega) h
  have q : r.toInt = (cg (gs f d) sg 0 (d_f f d).toNat : Nat) := q
  unfold HD
  by_cases c : r ≤ 0
  · have := q_le c
    exact Or.inr ⟨h.1 c, by omega⟩
  · have := q_nle c
    exact Or.inl ⟨h.2 c, by omega⟩
theorem e7_hasD {P : Int32 → Prop} {Q : Int32 → Prop} {s : Bd} {m : Md} {x sg : Int32} {d : Nat} (hX : DX s (m.2.2.1 0) d) (hx : x.toInt = (d : Int)) (h : wp_X7_manyWith P m x sg) (hP : ∀ r, P r → (r ≤ 0 → Q 0) ∧ (¬ r ≤ 0 → Q 1)) : (Q 1 ∧ HD (m.2.2.1 0) d sg) ∨ (Q 0 ∧ ¬ HD (m.2.2.1 0) d sg) := by
  have e0 : (0 : Int32).toInt = 0 := rfl
  obtain ⟨r, h, q⟩ := e7_mwD hX hx h
  have h := hP r h
  unfold HD
  by_cases c : r ≤ 0
  · have := q_le c
    exact Or.inr ⟨h.1 c, by omega⟩
  · have := q_nle c
    exact Or.inl ⟨h.2 c, by omega⟩
theorem e0_some_L {P : Int32 → Prop} {s : Bd} {f : Nat → Int64} {sg : Int32} {R W D : Int} (hf : rw_ok R W D f) (hB : RB s f) : ∀ (n : Nat) (z : Int32), 0 ≤ z.toInt → z.toInt ≤ D → (∀ k : Nat, (k : Int) < z.toInt → ¬ HD f k sg) → wp_X0_someDrumHas_L2 s P (fun _ _ => P 0) n sg z → (P 1 ∧ ∃ k : Nat, (k : Int) < D ∧ HD f k sg) ∨ (P 0 ∧ ∀ k : Nat, (k : Int) < D → ¬ HD f k sg) := by
  have e1 : (1 : Int32).toInt = 1 := rfl
  have rc := RB_cells hf hB
  have hR := hf.2.2.2.2.2.1
  intro n
  induction n with
  | zero =>
    intro z _ _ _ h
    exact (show False from h).elim
  | succ n ih =>
    intro z a1 a2 a3 h
    unfold wp_X0_someDrumHas_L2 at h
    by_cases c : s.1 3 ≤ z
    · have := q_le c
      exact Or.inr ⟨h.1 c, fun k hk => a3 k (by omega)⟩
    · have := q_nle c
      have sz := nw (tq_addr e1 z) (by omega)
      have hX := DX_of (d := z.toInt.toNat) hf hB (by omega)
      rcases e0_hasD hX (by omega) (h.2 c) with ⟨h, g⟩ | ⟨h, g⟩
      · exact Or.inl ⟨h.2 (by decide), z.toInt.toNat, by omega, g⟩
      · refine ih (z + 1) (by omega) (by omega) (fun k hk => ?_) (h.1 rfl)
        by_cases y : (k : Int) < z.toInt
        · exact a3 k y
        · have e : k = z.toInt.toNat := by omega
          rw [e]
          exact g
theorem e0_some {P : Int32 → Prop} {s : Bd} {f : Nat → Int64} {sg : Int32} {R W D : Int} (hf : rw_ok R W D f) (hB : RB s f) (h : wp_X0_someDrumHas P s sg) : (P 1 ∧ ∃ k : Nat, (k : Int) < D ∧ HD f k sg) ∨ (P 0 ∧ ∀ k : Nat, (k : Int) < D → ¬ HD f k sg) := by
  have e0 : (0 : Int32).toInt = 0 := rfl
  have hR := hf.2.2.2.2.2.1
  unfold wp_X0_someDrumHas at h
  obtain ⟨n, h⟩ := h
  exact e0_some_L hf hB n 0 (by decide) (by omega) (fun k hk => by omega) h
theorem e7_else_L {P : Int32 → Prop} {s : Bd} {m : Md} {x sg : Int32} {own : Nat} {R W D : Int} (hf : rw_ok R W D (m.2.2.1 0)) (hB : RB s (m.2.2.1 0)) (hx : x.toInt = (own : Int)) : ∀ (n : Nat) (z : Int32), 0 ≤ z.toInt → z.toInt ≤ D → (∀ k : Nat, (k : Int) < z.toInt → ¬ k = own → ¬ HD (m.2.2.1 0) k sg) → wp_X7_hasElsewhere_L2 m P (fun _ _ _ => P 0) n x sg z → (P 1 ∧ ∃ k : Nat, (k : Int) < D ∧ ¬ k = own ∧ HD (m.2.2.1 0) k sg) ∨ (P 0 ∧ ∀ k : Nat, (k : Int) < D → ¬ k = own → ¬ HD (m.2.2.1 0) k sg) := by
  have e1 : (1 : Int32).toInt = 1 := rfl
  obtain ⟨_, _, n3, _, n5⟩ := rw_n hf
  intro n
  induction n with
  | zero =>
    intro z _ _ _ h
    exact (show False from h).elim
  | succ n ih =>
    intro z a1 a2 a3 h
    unfold wp_X7_hasElsewhere_L2 at h
    have h := drums_e h
    by_cases c : Int64.toInt32 (m.2.2.1 0 3) ≤ z
    · have := q_le c
      exact Or.inr ⟨h.1 c, fun k hk => a3 k (by omega)⟩
    · have := q_nle c
      have h := h.2 c
      have sz := nw (tq_addr e1 z) (by omega)
      by_cases y : z = x
      · refine ih (z + 1) (by omega) (by omega) (fun k hk nk => ?_) (h.1 y)
        rw [← y] at hx
        exact a3 k (by omega) nk
      · have hX := DX_of (d := z.toInt.toNat) hf hB (by omega)
        have ny : ¬ z.toInt = x.toInt := fun g => y (Int32.toInt_inj.mp g)
        rcases e7_hasD (Q := fun r => (r = 0 → wp_X7_hasElsewhere_L2 m P (fun _ _ _ => P 0) n x sg (z + 1)) ∧ (¬ r = 0 → P 1)) hX (by omega) (h.2 y) (fun r g => ⟨fun k => ⟨fun _ => g.1 k, fun q => (q rfl).elim⟩, fun k => ⟨fun q => absurd q (by decide), fun _ => g.2 k⟩⟩) with ⟨h, g⟩ | ⟨h, g⟩
        · exact Or.inl ⟨h.2 (by decide), z.toInt.toNat, by omega, by omega, g⟩
        · refine ih (z + 1) (by omega) (by omega) (fun k hk nk => ?_) (h.1 rfl)
          by_cases v : (k : Int) < z.toInt
          · exact a3 k v nk
          · have e : k = z.toInt.toNat := by omega
            rw [e]
            exact g
theorem e7_else {P : Int32 → Prop} {s : Bd} {m : Md} {x sg : Int32} {own : Nat} {R W D : Int} (hf : rw_ok R W D (m.2.2.1 0)) (hB : RB s (m.2.2.1 0)) (hx : x.toInt = (own : Int)) (h : wp_X7_hasElsewhere P m x sg) : (P 1 ∧ ∃ k : Nat, (k : Int) < D ∧ ¬ k = own ∧ HD (m.2.2.1 0) k sg) ∨ (P 0 ∧ ∀ k : Nat, (k : Int) < D → ¬ k = own → ¬ HD (m.2.2.1 0) k sg) := by
  have e0 : (0 : Int32).toInt = 0 := rfl
  have hR := hf.2.2.2.2.2.1
  unfold wp_X7_hasElsewhere at h
  obtain ⟨n, h⟩ := h
  exact e7_else_L hf hB hx n 0 (by decide) (by omega) (fun k hk => by omega) h
theorem sq_lk1_L {P6 P7 : Int32 → Prop} {s : Bd} {m : Md} {x1 y1 : Int32} {c d : Nat} {R W D : Int} (hf : rw_ok R W D (m.2.2.1 0)) (hD : 0 < D) (hB : RB s (m.2.2.1 0)) (hx : x1.toInt = (c : Int)) (hc : (c : Int) < R * W) (hd : (c_f (m.2.2.1 0) c 0).toNat = d) (hX : DX s (m.2.2.1 0) d) (hy : y1.toInt = (d : Int)) : ∀ (n6 n7 : Nat) (z z4 : Int32), 0 ≤ z4.toInt → z4.toInt ≤ 127 → wp_X0_signsOfOthers_L5 s P6 (fun _ z _ => P6 z) n6 y1 z z4 → wp_X7_lacks_L26 m P7 (fun _ _ z _ => P7 z) n7 x1 1 z z4 → ∃ r, P6 r ∧ P7 r := by
  have e1 : (1 : Int32).toInt = 1 := rfl
  have e0 : (0 : Int32).toInt = 0 := rfl
  have e126 : (126 : Int32).toInt = 126 := rfl
  have e127 : (127 : Int32).toInt = 127 := rfl
  have hR := hf.2.2.2.2.2.1
  obtain ⟨q0, _⟩ := cl_f (c := c) hf hD hc
  intro n6
  induction n6 with
  | zero =>
    intro n7 z z4 _ _ h
    exact (show False from h).elim
  | succ n6 ih =>
    intro n7 z z4 a1 a2 h6 h7
    cases n7 with
    | zero => exact (show False from h7).elim
    | succ n7 =>
      unfold wp_X0_signsOfOthers_L5 at h6
      unfold wp_X7_lacks_L26 at h7
      by_cases g : 127 ≤ z4
      · have := q_le g
        exact ⟨z, h6.1 (Int32.lt_iff_toInt_lt.mpr (by omega)), h7.1 g⟩
      · have := q_nle g
        have s4 := nw (tq_addr e1 z4) (by omega)
        have h6 := e0_some hf hB (h6.2 (fun q => by have := q_lt q; omega))
        obtain ⟨r8, h7, q8⟩ := e7_drum hf hD hx hc hd (h7.2 g)
        obtain ⟨r10, h7, q10⟩ := e7_mwD hX q8 h7
        have nxt : ∀ z', wp_X0_signsOfOthers_L5 s P6 (fun _ z _ => P6 z) n6 y1 z' (z4 + 1) → wp_X7_lacks_L26 m P7 (fun _ _ z _ => P7 z) n7 x1 1 z' (z4 + 1) → ∃ r, P6 r ∧ P7 r := fun z' a b => ih n7 z' (z4 + 1) (by omega) (by omega) a b
        by_cases u : r10 ≤ 0
        · have := q_le u
          have no : ¬ HD (m.2.2.1 0) d z4 := by
            unfold HD
            omega
          obtain ⟨r14, h7, q14⟩ := e7_drum hf hD hx hc hd ((h7.1 u).1 (by decide))
          rcases e7_else hf hB q14 h7 with ⟨h7, k, k1, k2, k3⟩ | ⟨h7, hn⟩
          · rcases h6 with ⟨h6, _⟩ | ⟨_, hn⟩
            · rcases e0_hasD hX hy (h6.2 (by decide)) with ⟨_, y⟩ | ⟨h6, _⟩
              · exact (no y).elim
              · exact nxt _ (h6.2 rfl) (h7.2 (by decide))
            · exact (hn k k1 k3).elim
          · have h7 := h7.1 rfl
            rw [Int32.add_zero] at h7
            rcases h6 with ⟨_, k, k1, k2⟩ | ⟨h6, _⟩
            · by_cases e : k = d
              · rw [e] at k2
                exact (no k2).elim
              · exact (hn k k1 e k2).elim
            · exact nxt _ (h6.1 rfl) h7
        · have := q_nle u
          have yes : HD (m.2.2.1 0) d z4 := by
            unfold HD
            omega
          have h7 := (h7.2 u).1 (by decide)
          rw [Int32.add_zero] at h7
          rcases h6 with ⟨h6, _⟩ | ⟨_, hn⟩
          · rcases e0_hasD hX hy (h6.2 (by decide)) with ⟨h6, _⟩ | ⟨_, y⟩
            · exact nxt _ (h6.1 (by decide)) h7
            · exact (y yes).elim
          · exact (hn d (by omega) yes).elim
theorem sq_lacks {P6 P7 : Int32 → Prop} {s2 : Bd} {m : Md} {x1 x2 : Int32} {N R W D : Int} (hB : RB s2 (m.2.2.1 0)) (hM : mb N R W D m) (hs : R ≤ 0 ∨ 0 < D) (h6 : wp_X6_lacks P6 s2 x1 x2) (h7 : wp_X7_lacks P7 m x1 x2) : ∃ r, P6 r ∧ P7 r := by
  have e0 : (0 : Int32).toInt = 0 := rfl
  have e1 : (1 : Int32).toInt = 1 := rfl
  have e32 : (32 : Int32).toInt = 32 := rfl
  have hf := hM.2.2.2.2.1
  have hR := hf.2.2.2.2.2.1
  have rc := RB_cells hf hB
  unfold wp_X6_lacks at h6
  unfold wp_X7_lacks at h7
  rcases e0_hasCell rc.2.2.1 h6 with ⟨h6, g1, g2⟩ | ⟨h6, g⟩
  · rcases e7_isCell hf h7 with ⟨h7, _, _⟩ | ⟨_, g⟩
    · have h6 := h6.2 (by decide)
      have h7 := h7.2 (by decide)
      have hD := cells_D hf hs g1 g2
      rcases e7_inC (i := 0) (j := 1) rfl rfl h7 with ⟨h7, j1, j2⟩ | ⟨h7, j⟩
      · have h6 := (h6.2 (fun c => by have := q_lt c; omega)).1 (Int32.le_iff_toInt_le.mpr (by omega))
        obtain ⟨n7, h7⟩ := h7.1 (by decide)
        obtain ⟨q0, q1, q2, q3, q4, q5⟩ := cl_f (c := x1.toInt.toNat) hf hD (by omega)
        have hX := DX_of (d := (c_f (m.2.2.1 0) x1.toInt.toNat 0).toNat) hf hB (by omega)
        have at_ := RB_x (c := x1.toInt.toNat) hf hB (by omega)
        have z := c32 (c := x1.toInt.toNat) (j := 0) hf hD (by omega) (by decide)
        have hy : (s2.2.1 3 x1.toInt.toNat).toInt = ((c_f (m.2.2.1 0) x1.toInt.toNat 0).toNat : Int) := by
          rw [at_.1]
          omega
        have hx : x1.toInt = (x1.toInt.toNat : Int) := by omega
        by_cases c0 : x2 = 0
        · have h6 := h6.2 c0
          unfold wp_X0_missedOfOwn at h6
          obtain ⟨_, n6, h6⟩ := h6
          rw [tn_i] at h6
          rw [c0] at h7
          obtain ⟨r6, h6, q6⟩ := e0_mis_L hf hD hB hx (by omega) rfl hy hX n6 0 0 (by decide) (by omega) (by decide) (by omega) h6
          obtain ⟨r7, h7, q7⟩ := e7_lk0_L hf hD hx (by omega) rfl hX n7 0 32 (by decide) (by omega) (by decide) (by omega) h7
          generalize (c_f (m.2.2.1 0) x1.toInt.toNat 0).toNat = d at *
          have hg : ∀ k, k < (d_f (m.2.2.1 0) d).toNat → 32 ≤ (gs (m.2.2.1 0) d k).toInt ∧ (gs (m.2.2.1 0) d k).toInt ≤ 126 := fun k hk => gs_b hX.2.2.2.2.1 (by omega)
          have u := U_w (w := wls (m.2.2.1 0) x1.toInt.toNat d) hg (d_f (m.2.2.1 0) d).toNat 0 (by omega)
          have u : sm (mls (m.2.2.1 0) x1.toInt.toNat d) 0 (d_f (m.2.2.1 0) d).toNat = sm (m8s (m.2.2.1 0) x1.toInt.toNat d) 32 95 := u
          have q6 : r6.toInt = (0 : Int32).toInt + (sm (mls (m.2.2.1 0) x1.toInt.toNat d) 0 (d_f (m.2.2.1 0) d).toNat : Nat) := q6
          have q7 : r7.toInt = (0 : Int32).toInt + (sm (m8s (m.2.2.1 0) x1.toInt.toNat d) 32 95 : Nat) := q7
          have e : r6 = r7 := Int32.toInt_inj.mp (by omega)
          rw [e] at h6
          exact ⟨_, h6, h7⟩
        · have h6 := (h6.1 c0).2
          have c1 : x2 = 1 := Int32.toInt_inj.mp (by have : ¬ x2.toInt = 0 := fun g => c0 (Int32.toInt_inj.mp g); omega)
          rw [c1] at h7
          unfold wp_X0_signsOfOthers at h6
          obtain ⟨n6, h6⟩ := h6
          rw [tn_i] at h6
          exact sq_lk1_L hf hD hB hx (by omega) rfl hX hy n6 n7 0 32 (by decide) (by decide) h6 h7
      · have h7 := h7.2 rfl
        by_cases c : x2 < 0
        · exact ⟨_, h6.1 c, h7⟩
        · have := q_nlt c
          exact ⟨_, (h6.2 c).2 (fun c => by have := q_le c; omega), h7⟩
    · omega
  · rcases e7_isCell hf h7 with ⟨_, _, _⟩ | ⟨h7, _⟩
    · omega
    · exact ⟨_, h6.1 rfl, h7.1 rfl⟩
