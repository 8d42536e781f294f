/-! which. -/
theorem bs_ext {a b : Int64} (h : ∀ k, bs_at a k = bs_at b k) : a = b := by
  have e : a.toBitVec.toNat = b.toBitVec.toNat := Nat.eq_of_testBit_eq h
  exact Int64.toBitVec_inj.mp (BitVec.eq_of_toNat_eq e)
theorem sm_such {P6 P7 : Int32 → Prop} {b : Bd} {v : Md} {x k : Int32} {R W D : Int} (hf : rw_ok R W D (v.2.2.1 0)) (hD : 0 < D) (hB : RB b (v.2.2.1 0)) (hx : 0 ≤ x.toInt ∧ x.toInt < R * W) (hk : k = 0 ∨ k = 1 ∨ k = 2 ∨ k = 4) (h6 : wp_X6_isSuch P6 b x k) (h7 : wp_X7_isSuch P7 v x k) : ∃ r, P6 r ∧ P7 r := by
  have e0 : (0 : Int32).toInt = 0 := rfl
  have t2 : Int32.toNatClampNeg 2 = 2 := rfl
  have hR := hf.2.2.2.2.2.1
  have hL := hf.2.2.2.2.1
  have rc := RB_cells hf hB
  unfold wp_X6_isSuch at h6
  unfold wp_X7_isSuch at h7
  rcases hk with rfl | rfl | rfl | rfl
  · obtain ⟨r, h6, er⟩ := e0_leftOf hf hD hB hx.1 hx.2 (h6.1 rfl)
    obtain ⟨r', h7, er'⟩ := e7_leftOf hf hD hx.1 hx.2 (h7.1 rfl)
    have ee : r' = r := Int32.toInt_inj.mp (er'.trans er.symm)
    subst ee
    by_cases c : r' ≤ 0
    · exact ⟨_, h6.1 c, h7.1 c⟩
    · exact ⟨_, h6.2 c, h7.2 c⟩
  · have h6 := ((h6.2 (by decide)).1 rfl).2.2
    have h7 := e7_of (i := 1) hx.1 (by omega) rfl (by decide) ((h7.2 (by decide)).1 rfl)
    have h7 := e7_of (i := 2) hx.1 (by omega) rfl (by decide) h7
    have at_ := RB_x (c := x.toInt.toNat) hf hB (by omega)
    rw [tn_i, at_.2.1, at_.2.2.1] at h6
    by_cases c : Int64.toInt32 (v.2.2.1 0 (176 + 8 * x.toInt.toNat + 1)) = Int64.toInt32 (v.2.2.1 0 (176 + 8 * x.toInt.toNat + 2))
    · exact ⟨_, h6.1 c, h7.1 c⟩
    · exact ⟨_, h6.2 c, h7.2 c⟩
  · have h6 := e0_wrong hf hD hB hx (((h6.2 (by decide)).2 (by decide)).1 rfl)
    have h7 := e7_other hf hD hx (((h7.2 (by decide)).2 (by decide)).1 rfl)
    by_cases c : WS (v.2.2.1 0) x.toInt.toNat 1 = WS (v.2.2.1 0) x.toInt.toNat 3
    · exact ⟨_, (h6.1 c).2, (h7.1 c).2⟩
    · exact ⟨_, (h6.2 c).2, (h7.2 c).2⟩
  · have h6 := ((((h6.2 (by decide)).2 (by decide)).2 (by decide)).2 (by decide)).1 rfl
    have h7 := (((h7.2 (by decide)).2 (by decide)).2 (by decide)).2 (by decide)
    obtain ⟨r, h6, er⟩ := e0_currentOf hf hD hB hx.1 hx.2 h6
    obtain ⟨r', h7, er'⟩ := e7_current hf hD hB hx.1 hx.2 h7
    have ee : r' = r := Int32.toInt_inj.mp (er'.trans er.symm)
    subst ee
    have cb := CU_b hf hD hB (c := x.toInt.toNat) (by omega)
    rw [t2] at h7
    have lc := lim_c (t := r') (c := 0) (y := v.2.2.1 0 2) (by omega) (by decide)
    rw [Int32.add_zero] at lc
    by_cases c : r' ≤ b.1 2
    · have := q_le c
      exact ⟨_, h6.1 c, h7.1 (lc.mpr (by rw [e0]; omega))⟩
    · have := q_nle c
      exact ⟨_, h6.2 c, h7.2 (fun g => by have := lc.mp g; rw [e0] at this; omega)⟩
theorem sm_which_L {P6 : Int64 → Mo → Prop} {P7 : Int64 → Md → Prop} {b : Bd} {t : Mo} {v : Md} {k : Int32} {R W D : Int} (hf : rw_ok R W D (v.2.2.1 0)) (hD : 0 < D) (hB : RB b (v.2.2.1 0)) (hk : k = 0 ∨ k = 1 ∨ k = 2 ∨ k = 4) : ∀ (n6 n7 : Nat) (w : Int64) (z : Int32), 0 ≤ z.toInt → z.toInt ≤ R * W → wp_X6_which_L52 b P6 (fun t2 _ w2 _ => P6 w2 t2) n6 t k w z → wp_X7_which_L32 P7 (fun t0 _ w2 _ => P7 w2 t0) n7 v k w z → ∃ r, P6 r t ∧ P7 r v := by
  have e1 : (1 : Int32).toInt = 1 := rfl
  have hR := hf.2.2.2.2.2.1
  have rc := RB_cells hf hB
  have rn := rw_n hf
  have ec : Int64.toInt32 (v.2.2.1 0 0) * Int64.toInt32 (v.2.2.1 0 1) = b.1 0 * b.1 1 := Int32.toInt_inj.mp (rn.2.2.2.1.trans rc.2.2.1.symm)
  intro n6
  induction n6 with
  | zero =>
    intro n7 w z _ _ h
    exact (show False from h).elim
  | succ n6 ih =>
    intro n7 w z h0 h1 h6 h7
    cases n7 with
    | zero => exact (show False from h7).elim
    | succ n7 =>
      unfold wp_X6_which_L52 at h6
      unfold wp_X7_which_L32 at h7
      have h6 := cells6_e h6
      have h7 := cells7_e h7
      rw [ec] at h7
      by_cases c : b.1 0 * b.1 1 ≤ z
      · exact ⟨w, h6.1 c, h7.1 c⟩
      · have := q_nle c
        have s := nw (tq_addr e1 z) (by omega)
        obtain ⟨r, h6, h7⟩ := sm_such hf hD hB ⟨h0, by omega⟩ hk (h6.2 c) (h7.2 c)
        by_cases g : r = 0
        · exact ih n7 w (z + 1) (by omega) (by omega) (h6.1 g) (h7.1 g)
        · exact ih n7 _ (z + 1) (by omega) (by omega) (h6.2 g) (h7.2 g)
theorem e2_bits_L {P : Int64 → Prop} {u : Mo} {T : Nat → Bool} (ch : CHS T u) (hm : (u.1 0).toInt ≤ 40) (hn : ∀ i, T i = true → i < 40) : ∀ (n : Nat) (w : Int64) (z : Int32), 0 ≤ z.toInt → z.toInt ≤ (u.1 0).toInt → (∀ k, bs_at w k = true ↔ ∃ j : Nat, (j : Int) < z.toInt ∧ (u.2 2 j).toInt = (k : Int)) → wp_X2_chosenBits_L4 u P (fun w _ => P w) n w z → ∃ w', P w' ∧ ∀ k, bs_at w' k = T k := by
  have e1 : (1 : Int32).toInt = 1 := rfl
  obtain ⟨c1, c2, c3, c4⟩ := ch
  intro n
  induction n with
  | zero =>
    intro w z _ _ _ h
    exact (show False from h).elim
  | succ n ih =>
    intro w z h0 h1 hw h
    unfold wp_X2_chosenBits_L4 at h
    by_cases c : u.1 0 ≤ z
    · have := q_le c
      refine ⟨w, h.1 c, fun k => ?_⟩
      cases q : T k with
      | true =>
        obtain ⟨j, j1, j2⟩ := c3 k q
        exact (hw k).mpr ⟨j, by omega, j2⟩
      | false =>
        cases g : bs_at w k with
        | false => rfl
        | true =>
          obtain ⟨j, j1, j2⟩ := (hw k).mp g
          have := (c2 j (by omega)).2
          rw [j2, Int.toNat_natCast, q] at this
          cases this
    · have := q_nle c
      have s := nw (tq_addr e1 z) (by omega)
      have h := (h.2 c).2
      rw [tn_i] at h
      have cz := c2 z.toInt.toNat (by omega)
      have l := hn _ cz.2
      refine ih _ (z + 1) (by omega) (by omega) (fun k => ?_) h
      rw [bs_or (by omega), Bool.or_eq_true, hw k]
      constructor
      · rintro (⟨j, j1, j2⟩ | q)
        · exact ⟨j, by omega, j2⟩
        · have := of_decide_eq_true q
          exact ⟨z.toInt.toNat, by omega, by omega⟩
      · rintro ⟨j, j1, j2⟩
        by_cases q : j = z.toInt.toNat
        · right
          rw [q] at j2
          exact decide_eq_true (by omega)
        · exact Or.inl ⟨j, by omega, j2⟩
theorem e7_which3_L {P7 : Int64 → Md → Prop} {v : Md} {R W D : Int} (hf : rw_ok R W D (v.2.2.1 0)) (hn : ∀ i, bs_at v.2.1 i = true → (i : Int) < R * W) : ∀ (n : Nat) (w : Int64) (z : Int32), 0 ≤ z.toInt → z.toInt ≤ R * W → (∀ k, bs_at w k = true ↔ ((k : Int) < z.toInt ∧ bs_at v.2.1 k = true)) → wp_X7_which_L32 P7 (fun t0 _ w2 _ => P7 w2 t0) n v 3 w z → ∃ w', P7 w' v ∧ ∀ k, bs_at w' k = bs_at v.2.1 k := by
  have e1 : (1 : Int32).toInt = 1 := rfl
  have hR := hf.2.2.2.2.2.1
  have rn := rw_n hf
  intro n
  induction n with
  | zero =>
    intro w z _ _ _ h
    exact (show False from h).elim
  | succ n ih =>
    intro w z h0 h1 hw h
    unfold wp_X7_which_L32 at h
    have h := cells7_e h
    by_cases c : Int64.toInt32 (v.2.2.1 0 0) * Int64.toInt32 (v.2.2.1 0 1) ≤ z
    · have := q_le c
      refine ⟨w, h.1 c, fun k => ?_⟩
      cases q : bs_at v.2.1 k with
      | true => exact (hw k).mpr ⟨by have := hn k q; omega, q⟩
      | false =>
        cases g : bs_at w k with
        | false => rfl
        | true =>
          have := ((hw k).mp g).2
          rw [q] at this
          cases this
    · have := q_nle c
      have s := nw (tq_addr e1 z) (by omega)
      have h := h.2 c
      unfold wp_X7_isSuch at h
      have h := (((h.2 (by decide)).2 (by decide)).2 (by decide)).1 rfl
      rcases e7_isIn (by omega) h with ⟨h, b⟩ | ⟨h, b⟩
      · refine ih _ (z + 1) (by omega) (by omega) (fun k => ?_) (h.2.2 (by decide))
        rw [bs_or (by omega), Bool.or_eq_true, hw k]
        constructor
        · rintro (⟨q1, q2⟩ | q)
          · exact ⟨by omega, q2⟩
          · have := of_decide_eq_true q
            exact ⟨by omega, by rw [← this]; exact b⟩
        · rintro ⟨q1, q2⟩
          by_cases g : z.toInt.toNat = k
          · exact Or.inr (decide_eq_true g)
          · exact Or.inl ⟨by omega, q2⟩
      · refine ih w (z + 1) (by omega) (by omega) (fun k => ?_) (h.2.1 rfl)
        rw [hw k]
        constructor
        · rintro ⟨q1, q2⟩
          exact ⟨by omega, q2⟩
        · rintro ⟨q1, q2⟩
          by_cases g : z.toInt.toNat = k
          · rw [g, q2] at b
            cases b
          · exact ⟨by omega, q2⟩
theorem sm_which {P6 : Int64 → Mo → Prop} {P7 : Int64 → Md → Prop} {s2 : Bd} {s4 : Mo} {m : Md} {x1 : Int32} {N R W D : Int} (hB : RB s2 (m.2.2.1 0)) (hM : mb N R W D m) (hs : R ≤ 0 ∨ 0 < D) (h6 : wp_X6_which P6 s2 s4 x1) (h7 : wp_X7_which P7 m x1) : ∃ r t m', P6 r t ∧ P7 r m' ∧ NB m m' := by
  have e0 : (0 : Int32).toInt = 0 := rfl
  have e4 : (4 : Int32).toInt = 4 := rfl
  have hf := hM.2.2.2.2.1
  have hR := hf.2.2.2.2.2.1
  have hL := hf.2.2.2.2.1
  have rc := RB_cells hf hB
  have fl : ∀ r, P6 r s4 → P7 r m → ∃ r t m', P6 r t ∧ P7 r m' ∧ NB m m' := fun r a b => ⟨r, s4, m, a, b, NB_rf m⟩
  unfold wp_X6_which at h6
  unfold wp_X7_which at h7
  rcases e0_isThere h6 with ⟨h6, g⟩ | ⟨h6, g⟩
  · rcases e7_isBoard hf h7 with ⟨h7, hD⟩ | ⟨_, gD⟩
    · have h6 := h6.2 (by decide)
      rcases e7_inC (i := 0) (j := 4) rfl rfl (h7.2 (by decide)) with ⟨h7, j1, j2⟩ | ⟨h7, j⟩
      · have h6 := (h6.2 (fun c => by have := q_lt c; omega)).1 (Int32.le_iff_toInt_le.mpr (by omega))
        obtain ⟨w, h7, w1, w2, w3, m7, k7, A7, p7, q7⟩ := e7_finds hf hD hB (h7.1 (by decide))
        obtain ⟨n7, h7⟩ := h7
        have fw : rw_ok R W D (w.2.2.1 0) := by rw [w2]; exact hf
        have bw : RB s2 (w.2.2.1 0) := by rw [w2]; exact hB
        have nb : NB m w := ⟨fun i _ => by rw [w2], w1 0 (by decide), by rw [w2], by rw [w2], by rw [w3]⟩
        by_cases c3 : x1 = 3
        · obtain ⟨u, h6, i6, k6, A6, T6, ch, p6, q6⟩ := e2_choose hf hD hB (h6.2 c3)
          obtain ⟨eT, em, ec⟩ := PR_f (fun c hc => (CU_b hf hD hB (c := c) (by omega)).1) p6 q6 p7 q7
          have pb := PR_b (by omega) p6
          have pc := PR_ct p6
          have cl := ct_le T6 (R * W).toNat
          have hT : ∀ i, T6 i = true → (i : Int) < R * W := fun i hi => by have := (pb.2.2 i (pb.2.1 i hi)).1; omega
          unfold wp_X2_chosenBits at h6
          obtain ⟨n6, h6⟩ := h6
          obtain ⟨y6, h6, g6⟩ := e2_bits_L ch (by have := ch.1; omega) (fun i hi => by have := hT i hi; omega) n6 0 0 (by decide) (by rw [e0]; exact ch.1) (fun k => by
            rw [bs_0]
            exact ⟨fun q => (by cases q), fun ⟨j, j1, _⟩ => (by rw [e0] at j1; omega)⟩) h6
          rw [c3] at h7
          obtain ⟨y7, h7, g7⟩ := e7_which3_L fw (fun i hi => hT i (by rw [eT]; exact hi)) n7 0 0 (by decide) (by rw [e0]; omega) (fun k => by
            rw [bs_0]
            exact ⟨fun q => (by cases q), fun ⟨q, _⟩ => (by rw [e0] at q; omega)⟩) h7
          have ey : y7 = y6 := bs_ext (fun k => by rw [g6, g7, eT])
          rw [ey] at h7
          exact ⟨y6, u, w, h6, h7, nb⟩
        · obtain ⟨n6, h6⟩ := h6.1 c3
          have hk : x1 = 0 ∨ x1 = 1 ∨ x1 = 2 ∨ x1 = 4 := by
            have n3 : ¬ x1.toInt = 3 := fun q => c3 (Int32.toInt_inj.mp q)
            rcases (show x1.toInt = 0 ∨ x1.toInt = 1 ∨ x1.toInt = 2 ∨ x1.toInt = 4 by omega) with q | q | q | q
            · exact Or.inl (Int32.toInt_inj.mp q)
            · exact Or.inr (Or.inl (Int32.toInt_inj.mp q))
            · exact Or.inr (Or.inr (Or.inl (Int32.toInt_inj.mp q)))
            · exact Or.inr (Or.inr (Or.inr (Int32.toInt_inj.mp q)))
          obtain ⟨r, h6, h7⟩ := sm_which_L fw hD bw hk n6 n7 0 0 (by decide) (by rw [e0]; omega) h6 h7
          exact ⟨r, s4, w, h6, h7, nb⟩
      · by_cases c : x1 < 0
        · exact fl _ (h6.1 c) (h7.2 rfl)
        · have := q_nlt c
          exact fl _ ((h6.2 c).2 (fun c => by have := q_le c; omega)) (h7.2 rfl)
    · omega
  · rcases e7_isBoard hf h7 with ⟨_, hD⟩ | ⟨h7, _⟩
    · omega
    · exact fl _ (h6.1 rfl) (h7.1 rfl)
