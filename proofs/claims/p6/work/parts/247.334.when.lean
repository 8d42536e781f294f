/-! when, loudest, rests: a turning on a copy, and the board as it was. -/
def NB (m m' : Md) : Prop := (∀ i : Nat, i < 6896 → m'.2.2.1 0 i = m.2.2.1 0 i) ∧ m'.1 0 = m.1 0 ∧ m'.2.2.1 1 = m.2.2.1 1 ∧ m'.2.2.1 2 = m.2.2.1 2 ∧ m'.2.2.2 0 = m.2.2.2 0
theorem NB_rf (m : Md) : NB m m := ⟨fun _ _ => rfl, rfl, rfl, rfl, rfl⟩
theorem NB_tb {m u v w : Md} (a : ASD m u) (t : TG u v) (b : TBK v w) : NB m w := by
  obtain ⟨a1, a2, a3, a4, a5⟩ := a
  obtain ⟨b1, b2, b3, b4, b5⟩ := b
  refine ⟨fun i hi => ?_, ?_, ?_, ?_, ?_⟩
  · rw [b5 i hi, t.2.2.2.1]
    exact a5 i hi
  · rw [b1, t.1.1, a1]
  · rw [b4 1 (by decide), t.2.1, a4 1 (by decide)]
  · rw [b4 2 (by decide), t.2.2.1, a4 2 (by decide)]
  · rw [b3, t.2.2.2.2, a3]
theorem e0_wrong {P : Int32 → Prop} {s : Bd} {f : Nat → Int64} {x : Int32} {R W D : Int} (hf : rw_ok R W D f) (hD : 0 < D) (hB : RB s f) (hx : 0 ≤ x.toInt ∧ x.toInt < R * W) (h : wp_X0_showsWrong P s x) : (WS f x.toInt.toNat 1 = WS f x.toInt.toNat 3 → P 0) ∧ (¬ WS f x.toInt.toNat 1 = WS f x.toInt.toNat 3 → P 1) := by
  unfold wp_X0_showsWrong at h
  have at_ := RB_x (c := x.toInt.toNat) hf hB (by omega)
  have h := h.2
  rw [tn_i] at h
  have h := e0_signOn (j := 1) hf hD hB hx (by omega) at_.2.1 h
  have h := e0_wantedSign hf hD hB hx h
  exact h
theorem e7_other {P : Int32 → Prop} {s : Md} {x : Int32} {R W D : Int} (hf : rw_ok R W D (s.2.2.1 0)) (hD : 0 < D) (hx : 0 ≤ x.toInt ∧ x.toInt < R * W) (h : wp_X7_isOther P s x) : (WS (s.2.2.1 0) x.toInt.toNat 1 = WS (s.2.2.1 0) x.toInt.toNat 3 → P 0) ∧ (¬ WS (s.2.2.1 0) x.toInt.toNat 1 = WS (s.2.2.1 0) x.toInt.toNat 3 → P 1) := by
  unfold wp_X7_isOther at h
  have h := e7_signAt (j := 1) hf hD hx rfl (by omega) h
  have h := e7_signAt (j := 3) hf hD hx rfl (by omega) h
  exact h
theorem sm_others_L {P6 P7 : Int32 → Prop} {b : Bd} {v : Md} {R W D : Int} (hf : rw_ok R W D (v.2.2.1 0)) (hD : 0 < D) (hB : RB b (v.2.2.1 0)) : ∀ (n6 n7 : Nat) (z1 z2 : Int32), 0 ≤ z2.toInt → z2.toInt ≤ R * W → wp_X0_wrongCount_L4 b P6 (fun z _ => P6 z) n6 z1 z2 → wp_X7_others_L4 v P7 (fun z _ => P7 z) n7 z1 z2 → ∃ r, P6 r ∧ P7 r := by
  have e1 : (1 : Int32).toInt = 1 := rfl
  have hR := hf.2.2.2.2.2.1
  have rc := RB_cells hf hB
  have rn := rw_n hf
  have ec : Int64.toInt32 (v.2.2.1 0 0) * Int64.toInt32 (v.2.2.1 0 1) = b.1 0 * b.1 1 := Int32.toInt_inj.mp (rn.2.2.2.1.trans rc.2.2.1.symm)
  intro n6
  induction n6 with
  | zero =>
    intro n7 z1 z2 _ _ h
    exact (show False from h).elim
  | succ n6 ih =>
    intro n7 z1 z2 h0 h1 h6 h7
    cases n7 with
    | zero => exact (show False from h7).elim
    | succ n7 =>
      unfold wp_X0_wrongCount_L4 at h6
      unfold wp_X7_others_L4 at h7
      have h6 := cells6_e h6
      have h7 := cells7_e h7
      rw [ec] at h7
      by_cases c : b.1 0 * b.1 1 ≤ z2
      · exact ⟨z1, h6.1 c, h7.1 c⟩
      · have := q_nle c
        have s := nw (tq_addr e1 z2) (by omega)
        have h6 := e0_wrong hf hD hB ⟨h0, by omega⟩ (h6.2 c)
        have h7 := e7_other hf hD ⟨h0, by omega⟩ (h7.2 c)
        by_cases g : WS (v.2.2.1 0) z2.toInt.toNat 1 = WS (v.2.2.1 0) z2.toInt.toNat 3
        · have h7 := (h7.1 g).1 rfl
          rw [Int32.add_zero] at h7
          exact ih n7 z1 (z2 + 1) (by omega) (by omega) ((h6.1 g).1 rfl) h7
        · exact ih n7 (z1 + 1) (z2 + 1) (by omega) (by omega) ((h6.2 g).2 (by decide)) ((h7.2 g).2 (by decide))
theorem oth_any {P7 : Int32 → Prop} {v : Md} {R W D : Int} (hf : rw_ok R W D (v.2.2.1 0)) (hD : 0 < D) : ∀ (n7 : Nat) (z1 z2 : Int32), 0 ≤ z2.toInt → z2.toInt ≤ R * W → wp_X7_others_L4 v P7 (fun z _ => P7 z) n7 z1 z2 → ∃ r, P7 r := by
  have e1 : (1 : Int32).toInt = 1 := rfl
  have hR := hf.2.2.2.2.2.1
  have rn := rw_n hf
  intro n7
  induction n7 with
  | zero =>
    intro z1 z2 _ _ h
    exact (show False from h).elim
  | succ n7 ih =>
    intro z1 z2 h0 h1 h7
    unfold wp_X7_others_L4 at h7
    have h7 := cells7_e h7
    by_cases c : Int64.toInt32 (v.2.2.1 0 0) * Int64.toInt32 (v.2.2.1 0 1) ≤ z2
    · exact ⟨z1, h7.1 c⟩
    · have := q_nle c
      have s := nw (tq_addr e1 z2) (by omega)
      have h7 := e7_other hf hD ⟨h0, by omega⟩ (h7.2 c)
      by_cases g : WS (v.2.2.1 0) z2.toInt.toNat 1 = WS (v.2.2.1 0) z2.toInt.toNat 3
      · exact ih (z1 + 0) (z2 + 1) (by omega) (by omega) ((h7.1 g).1 rfl)
      · exact ih (z1 + 1) (z2 + 1) (by omega) (by omega) ((h7.2 g).2 (by decide))
theorem sm_others {P6 P7 : Int32 → Prop} {b : Bd} {v : Md} {R W D : Int} (hf : rw_ok R W D (v.2.2.1 0)) (hD : 0 < D) (hB : RB b (v.2.2.1 0)) (h6 : wp_X0_wrongCount P6 b) (h7 : wp_X7_others P7 v) : ∃ r, P6 r ∧ P7 r := by
  have hR := hf.2.2.2.2.2.1
  obtain ⟨n6, h6⟩ := h6
  obtain ⟨n7, h7⟩ := h7
  exact sm_others_L hf hD hB n6 n7 0 0 (by decide) (by show (0 : Int) ≤ R * W; omega) h6 h7
theorem TT_67 {a a' : Nat → Int32} {v v' : Md} {k : Nat} (h : TT a v a' v' k) : Int64.toInt32 (v'.2.2.1 0 6) + a 3 = Int64.toInt32 (v.2.2.1 0 6) + a' 3 ∧ Int64.toInt32 (v'.2.2.1 0 7) + a 8 = Int64.toInt32 (v.2.2.1 0 7) + a' 8 := by
  refine TT_ind (M := fun a v a' v' k => Int64.toInt32 (v'.2.2.1 0 6) + a 3 = Int64.toInt32 (v.2.2.1 0 6) + a' 3 ∧ Int64.toInt32 (v'.2.2.1 0 7) + a 8 = Int64.toInt32 (v.2.2.1 0 7) + a' 8) (fun a a' v g => ?_) (fun a a' v v1 v' r fo k g t ih => ?_) k h
  · rw [g 3 (by decide) (by decide), g 8 (by decide) (by decide)]
    exact ⟨rfl, rfl⟩
  · obtain ⟨i1, i2⟩ := ih
    have i1 : Int64.toInt32 (v'.2.2.1 0 6) + (a 3 + r) = Int64.toInt32 (v1.2.2.1 0 6) + a' 3 := i1
    have i2 : Int64.toInt32 (v'.2.2.1 0 7) + (a 8 + fo) = Int64.toInt32 (v1.2.2.1 0 7) + a' 8 := i2
    rw [g.2.2.2.2.2.1, ← Int32.add_assoc, Int32.add_assoc _ r, Int32.add_comm r, ← Int32.add_assoc] at i1
    rw [g.2.2.2.2.1, ← Int32.add_assoc, Int32.add_assoc _ fo, Int32.add_comm fo, ← Int32.add_assoc] at i2
    exact ⟨(Int32.add_left_inj _).mp i1, (Int32.add_left_inj _).mp i2⟩
theorem e7_when_t {post : Int32 → Md → Prop} {e : Md → Int32 → Int32 → Int32 → Int32 → Prop} {z1 : Int32} {a a' : Nat → Int32} {v v' : Md} {k : Nat} (ht : TT a v a' v' k) : ∀ (n : Nat), wp_X7_when_L32 post e n v z1 (a 2) (a 4) (a 5) → ∃ n', wp_X7_when_L32 post e n' v' z1 (a' 2) (a' 4) (a' 5) := by
  have e0 : (0 : Int32).toInt = 0 := rfl
  refine TT_ind (M := fun a v a' v' k => ∀ (n : Nat), wp_X7_when_L32 post e n v z1 (a 2) (a 4) (a 5) → ∃ n', wp_X7_when_L32 post e n' v' z1 (a' 2) (a' 4) (a' 5)) (fun a a' v g => ?_) (fun a a' v v1 v' r fo k g t ih => ?_) k ht
  · intro n h
    rw [g 2 (by decide) (by decide), g 4 (by decide) (by decide), g 5 (by decide) (by decide)]
    exact ⟨n, h⟩
  · intro n h
    cases n with
    | zero => exact (show False from h).elim
    | succ n =>
      unfold wp_X7_when_L32 at h
      have h := (g.1 _ h).2 (fun c => by have := q_le c; have := g.2.2.1; omega)
      rw [g.2.1] at h
      refine ih n ?_
      have k5 : cu a r (v1.1 2) fo 5 = (if a 5 < v1.1 2 then v1.1 2 else a 5) := rfl
      show wp_X7_when_L32 post e n v1 z1 (a 2 + 1) (a 4 + r * r) (cu a r (v1.1 2) fo 5)
      rw [k5]
      by_cases c : v1.1 2 ≤ a 5
      · rw [if_neg (fun q => by have := q_lt q; have := q_le c; omega)]
        exact h.1 c
      · rw [if_pos (Int32.lt_iff_toInt_lt.mpr (by have := q_nle c; omega))]
        exact h.2 c
theorem sm_when {P6 : Int32 → Bd → Mo → Prop} {P7 : Int32 → Md → Prop} {s2 s3 : Bd} {s4 : Mo} {m : Md} {x1 : Int32} {N R W D : Int} (hB : RB s2 (m.2.2.1 0)) (hM : mb N R W D m) (hs : R ≤ 0 ∨ 0 < D) (h6 : wp_X6_when P6 s2 s3 s4 x1) (h7 : wp_X7_when P7 m x1) : ∃ r b t m', P6 r b t ∧ P7 r m' ∧ NB m m' := by
  have e0 : (0 : Int32).toInt = 0 := rfl
  have e5 : (5 : Int32).toInt = 5 := rfl
  have e1 : (1 : Int32).toInt = 1 := rfl
  have t6 : Int32.toNatClampNeg 6 = 6 := rfl
  have t7 : Int32.toNatClampNeg 7 = 7 := rfl
  have hf := hM.2.2.2.2.1
  have hR := hf.2.2.2.2.2.1
  have rc := RB_cells hf hB
  have fl : ∀ r, P6 r s3 s4 → P7 r m → ∃ r b t m', P6 r b t ∧ P7 r m' ∧ NB m m' := fun r a b => ⟨r, s3, s4, m, a, b, NB_rf m⟩
  unfold wp_X6_when at h6
  unfold wp_X7_when at h7
  rcases e0_isThere h6 with ⟨h6, g⟩ | ⟨h6, g⟩
  · rcases e7_isBoard hf h7 with ⟨h7, hD⟩ | ⟨_, gD⟩
    · have h6 := h6.2 (by decide)
      rcases e7_inC (i := 0) (j := 5) rfl rfl (h7.2 (by decide)) with ⟨h7, j1, j2⟩ | ⟨h7, j⟩
      · have h6 := (h6.2 (fun c => by have := q_lt c; omega)).1 (Int32.le_iff_toInt_le.mpr (by omega))
        unfold wp_X6_tryToSettle at h6
        obtain ⟨cp, h6, ag, _⟩ := e0_copyBut h6
        obtain ⟨u, h7, as⟩ := e7_putsAside (h7.1 (by decide))
        have mu := ASD_mb hM hs as
        have u0 : u.2.2.1 0 = m.2.2.1 0 := as.2.2.2.1 0 (by decide)
        obtain ⟨n, h7⟩ := h7
        obtain ⟨k, t', b', v', r1, r2, r3, r4, r5, r6, r7⟩ := sm_trnS mu hD (by rw [u0]; exact RB_ag hf ag hB) h6
        obtain ⟨n', h7⟩ := e7_when_t r2 n h7
        cases n' with
        | zero => exact (show False from h7).elim
        | succ n' =>
          unfold wp_X7_when_L32 at h7
          obtain ⟨w, h7, w2, w3, w4⟩ := e7_idle r4 hD r3 r7 h7
          have h7 := h7.1 (by decide)
          have tg := TG_tr r5 w4
          have q67 := TT_67 r2
          have a6 : w.2.2.1 3 6 = u.2.2.1 0 6 := by
            rw [tg.2.2.2.1, u0]
            exact as.2.2.2.2 6 (by decide)
          have a7 : w.2.2.1 3 7 = u.2.2.1 0 7 := by
            rw [tg.2.2.2.1, u0]
            exact as.2.2.2.2 7 (by decide)
          rw [Int32.add_zero, Int32.add_zero] at q67
          have v6 : Int64.toInt32 (w.2.2.1 0 6 - w.2.2.1 3 6) = t'.1 3 := by
            rw [Int64.toInt32_sub, w2, a6, q67.1]
            exact sub_add32 _ _
          have v7 : Int64.toInt32 (w.2.2.1 0 7 - w.2.2.1 3 7) = t'.1 8 := by
            rw [Int64.toInt32_sub, w2, a7, q67.2]
            exact sub_add32 _ _
          rw [t6, t7, v6, v7] at h7
          by_cases c4 : x1 = 4
          · have r1' := (((r1.2 (by rw [c4]; decide)).2 (by rw [c4]; decide)).2 (by rw [c4]; decide)).2 (by rw [c4]; decide)
            obtain ⟨r, g6, g7⟩ := sm_others w3.2.2.2.2.1 hD (by rw [w2]; exact r3) (r1'.1 c4) h7
            obtain ⟨y, g7, tb⟩ := e7_takesBack g7
            exact ⟨r, b', t', y, g6, ((((g7.2 (by rw [c4]; decide)).2 (by rw [c4]; decide)).2 (by rw [c4]; decide)).2 (by rw [c4]; decide)).1 c4, NB_tb as tg tb⟩
          · obtain ⟨n9, h7⟩ := h7
            obtain ⟨ro, h7⟩ := oth_any w3.2.2.2.2.1 hD n9 0 0 (by decide) (by show (0 : Int) ≤ R * W; omega) h7
            obtain ⟨y, g7, tb⟩ := e7_takesBack h7
            have nb := NB_tb as tg tb
            by_cases c0 : x1 = 0
            · exact ⟨_, b', t', y, r1.1 c0, g7.1 c0, nb⟩
            have r1 := r1.2 c0
            have g7 := g7.2 c0
            by_cases c1 : x1 = 1
            · exact ⟨_, b', t', y, r1.1 c1, g7.1 c1, nb⟩
            have r1 := r1.2 c1
            have g7 := g7.2 c1
            by_cases c2 : x1 = 2
            · exact ⟨_, b', t', y, r1.1 c2, g7.1 c2, nb⟩
            have r1 := r1.2 c2
            have g7 := g7.2 c2
            by_cases c3 : x1 = 3
            · exact ⟨_, b', t', y, r1.1 c3, g7.1 c3, nb⟩
            have r1 := (r1.2 c3).2 c4
            have g7 := (g7.2 c3).2 c4
            have c5 : x1 = 5 := by
              refine Int32.toInt_inj.mp ?_
              have n0 : ¬ x1.toInt = 0 := fun q => c0 (Int32.toInt_inj.mp q)
              have n1 : ¬ x1.toInt = 1 := fun q => c1 (Int32.toInt_inj.mp q)
              have n2 : ¬ x1.toInt = 2 := fun q => c2 (Int32.toInt_inj.mp q)
              have n3 : ¬ x1.toInt = 3 := fun q => c3 (Int32.toInt_inj.mp q)
              have n4 : ¬ x1.toInt = 4 := fun q => c4 (Int32.toInt_inj.mp q)
              omega
            exact ⟨_, b', t', y, r1.1 c5, g7, nb⟩
      · by_cases c : x1 < 0
        · exact fl _ (h6.1 c) (h7.2 rfl)
        · have := q_nlt c
          exact fl _ ((h6.2 c).2 (fun c => by have := q_le c; omega)) (h7.2 rfl)
    · omega
  · rcases e7_isBoard hf h7 with ⟨_, hD⟩ | ⟨h7, _⟩
    · omega
    · exact fl _ (h6.1 rfl) (h7.1 rfl)
