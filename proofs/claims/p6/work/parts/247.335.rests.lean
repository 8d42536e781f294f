/-! loudest, rests. -/
def LD (a : Nat → Int32) (z2 z3 z4 : Int32) : Prop := z4 = a 2 ∧ (0 ≤ z3.toInt ∧ z3.toInt ≤ 40) ∧ a 7 = z3 * z3 ∧ 0 ≤ (a 2).toInt ∧ (((a 2).toInt = 0 ∧ z2 = -2 ∧ z3 = 0) ∨ (1 ≤ (a 2).toInt ∧ z2 = a 6 ∧ 0 ≤ z2.toInt))
theorem sq_le {r z : Int32} (hr : 0 ≤ r.toInt ∧ r.toInt ≤ 40) (hz : 0 ≤ z.toInt ∧ z.toInt ≤ 40) : r * r ≤ z * z ↔ r.toInt ≤ z.toInt := by
  have s : ∀ {y : Int32}, 0 ≤ y.toInt ∧ y.toInt ≤ 40 → (y * y).toInt = y.toInt * y.toInt := fun {y} hy => by
    have b : 0 ≤ y.toInt * y.toInt ∧ y.toInt * y.toInt ≤ 1600 := ⟨Int.mul_nonneg hy.1 hy.1, by
      have := Int.mul_le_mul hy.2 hy.2 hy.1 (by omega : (0 : Int) ≤ 40)
      omega⟩
    exact nw (tq_mul y y) (by omega)
  rw [Int32.le_iff_toInt_le, s hr, s hz]
  constructor
  · intro h
    by_cases c : r.toInt ≤ z.toInt
    · exact c
    · exfalso
      have := Int.mul_lt_mul' (show z.toInt ≤ r.toInt by omega) (show z.toInt < r.toInt by omega) hz.1 (by omega)
      omega
  · intro h
    exact Int.mul_le_mul h h hr.1 hz.1
theorem e7_loud_t {post : Int32 → Md → Prop} {e : Md → Int32 → Int32 → Int32 → Int32 → Prop} {z1 : Int32} {a a' : Nat → Int32} {v v' : Md} {k : Nat} (ht : TT a v a' v' k) : ∀ (n : Nat) (z2 z3 z4 : Int32), LD a z2 z3 z4 → (a 2).toInt + (k : Int) ≤ 5000 → wp_X7_loudest_L31 post e n v z1 z2 z3 z4 → ∃ n' z2' z3' z4', LD a' z2' z3' z4' ∧ wp_X7_loudest_L31 post e n' v' z1 z2' z3' z4' := by
  have e0 : (0 : Int32).toInt = 0 := rfl
  have e1 : (1 : Int32).toInt = 1 := rfl
  refine TT_ind (M := fun a v a' v' k => ∀ (n : Nat) (z2 z3 z4 : Int32), LD a z2 z3 z4 → (a 2).toInt + (k : Int) ≤ 5000 → wp_X7_loudest_L31 post e n v z1 z2 z3 z4 → ∃ n' z2' z3' z4', LD a' z2' z3' z4' ∧ wp_X7_loudest_L31 post e n' v' z1 z2' z3' z4') (fun a a' v g => ?_) (fun a a' v v1 v' r fo k g t ih => ?_) k ht
  · intro n z2 z3 z4 hl _ h
    refine ⟨n, z2, z3, z4, ?_, h⟩
    unfold LD
    rw [g 2 (by decide) (by decide), g 6 (by decide) (by decide), g 7 (by decide) (by decide)]
    exact hl
  · intro n z2 z3 z4 hl hb h
    obtain ⟨l1, l2, l3, l4, l5⟩ := hl
    cases n with
    | zero => exact (show False from h).elim
    | succ n =>
      unfold wp_X7_loudest_L31 at h
      have h := (g.1 _ h).2 (fun c => by have := q_le c; have := g.2.2.1; omega)
      rw [g.2.1] at h
      have hr := g.2.2.1
      have sq := sq_le (r := r) (z := z3) (by omega) l2
      have s2 := nw (tq_addr e1 (a 2)) (by omega)
      have k6 : cu a r (v1.1 2) fo 6 = (if r * r ≤ a 7 then a 6 else a 2) := rfl
      have k7 : cu a r (v1.1 2) fo 7 = (if r * r ≤ a 7 then a 7 else r * r) := rfl
      have k2 : cu a r (v1.1 2) fo 2 = a 2 + 1 := rfl
      by_cases c : z3 < r
      · have := q_lt c
        have nq : ¬ r * r ≤ a 7 := fun q => by
          rw [l3] at q
          have := sq.mp q
          omega
        refine ih n z4 r (z4 + 1) ⟨by rw [k2, l1], by omega, by rw [k7, if_neg nq], by rw [k2]; omega, Or.inr ⟨by rw [k2]; omega, by rw [k6, if_neg nq]; exact l1, by rw [l1]; exact l4⟩⟩ (by rw [k2]; omega) (h.1 c)
      · have := q_nlt c
        have yq : r * r ≤ a 7 := by
          rw [l3]
          exact sq.mpr (by omega)
        refine ih n z2 z3 (z4 + 1) ⟨by rw [k2, l1], l2, by rw [k7, if_pos yq]; exact l3, by rw [k2]; omega, Or.inr ⟨by rw [k2]; omega, ?_⟩⟩ (by rw [k2]; omega) (h.2 c)
        rcases l5 with ⟨_, _, q⟩ | ⟨_, q1, q2⟩
        · exfalso
          rw [q, e0] at this
          omega
        · exact ⟨by rw [k6, if_pos yq]; exact q1, q2⟩
theorem sm_loudest {P6 : Int32 → Bd → Mo → Prop} {P7 : Int32 → Md → Prop} {s2 s3 : Bd} {s4 : Mo} {m : Md} {x1 : Int32} {N R W D : Int} (hB : RB s2 (m.2.2.1 0)) (hM : mb N R W D m) (hs : R ≤ 0 ∨ 0 < D) (h6 : wp_X6_loudest P6 s2 s3 s4 x1) (h7 : wp_X7_loudest P7 m x1) : ∃ r b t m', P6 r b t ∧ P7 r m' ∧ NB m m' := by
  have e0 : (0 : Int32).toInt = 0 := rfl
  have e1 : (1 : Int32).toInt = 1 := rfl
  have em : (-2 : Int32).toInt = -2 := rfl
  have hf := hM.2.2.2.2.1
  have hR := hf.2.2.2.2.2.1
  have rc := RB_cells hf hB
  have fl : ∀ r, P6 r s3 s4 → P7 r m → ∃ r b t m', P6 r b t ∧ P7 r m' ∧ NB m m' := fun r a b => ⟨r, s3, s4, m, a, b, NB_rf m⟩
  unfold wp_X6_loudest at h6
  unfold wp_X7_loudest at h7
  rcases e0_isThere h6 with ⟨h6, g⟩ | ⟨h6, g⟩
  · rcases e7_isBoard hf h7 with ⟨h7, hD⟩ | ⟨_, gD⟩
    · have h6 := h6.2 (by decide)
      rcases e7_inC (i := 0) (j := 1) rfl rfl (h7.2 (by decide)) with ⟨h7, j1, j2⟩ | ⟨h7, j⟩
      · have h6 := (h6.2 (fun c => by have := q_lt c; omega)).1 (Int32.le_iff_toInt_le.mpr (by omega))
        unfold wp_X6_tryToSettle at h6
        obtain ⟨cp, h6, ag, _⟩ := e0_copyBut h6
        obtain ⟨u, h7, as⟩ := e7_putsAside (h7.1 (by decide))
        have mu := ASD_mb hM hs as
        have u0 : u.2.2.1 0 = m.2.2.1 0 := as.2.2.2.1 0 (by decide)
        obtain ⟨n, h7⟩ := h7
        obtain ⟨k, t', b', v', r1, r2, r3, r4, r5, r6, r7⟩ := sm_trnS mu hD (by rw [u0]; exact RB_ag hf ag hB) h6
        obtain ⟨n', z2, z3, z4, ⟨l1, l2, l3, l4, l5⟩, h7⟩ := e7_loud_t r2 n (-2) 0 0 ⟨rfl, by decide, by decide, by decide, Or.inl ⟨rfl, rfl, rfl⟩⟩ (by rw [e0]; omega) h7
        cases n' with
        | zero => exact (show False from h7).elim
        | succ n' =>
          unfold wp_X7_loudest_L31 at h7
          obtain ⟨w, h7, w2, w3, w4⟩ := e7_idle r4 hD r3 r7 h7
          have tg := TG_tr r5 w4
          obtain ⟨y, g7, tb⟩ := e7_takesBack (h7.1 (by decide))
          have nb := NB_tb as tg tb
          rcases l5 with ⟨q1, q2, q3⟩ | ⟨q1, q2, q3⟩
          · have c : t'.1 2 = 0 := Int32.toInt_inj.mp (q1.trans e0.symm)
            have g7 := g7.1 q2
            rw [q2] at g7
            exact ⟨_, b', t', y, r1.2 c, g7, nb⟩
          · have c : ¬ t'.1 2 = 0 := fun q => by
              rw [q, e0] at q1
              omega
            have c2 : ¬ z2 = -2 := fun q => by
              rw [q, em] at q3
              omega
            have r1 := r1.1 c
            have g7 := g7.2 c2
            by_cases cx : x1 = 0
            · have g7 := g7.2 cx
              rw [q2] at g7
              exact ⟨_, b', t', y, r1.2 cx, g7, nb⟩
            · have g7 := g7.1 cx
              rw [← l3] at g7
              exact ⟨_, b', t', y, r1.1 cx, g7, nb⟩
      · by_cases c : x1 < 0
        · exact fl _ (h6.1 c) (h7.2 rfl)
        · have := q_nlt c
          exact fl _ ((h6.2 c).2 (fun c => by have := q_le c; omega)) (h7.2 rfl)
    · omega
  · rcases e7_isBoard hf h7 with ⟨_, hD⟩ | ⟨h7, _⟩
    · omega
    · exact fl _ (h6.1 rfl) (h7.1 rfl)
def ER (P7 : Int32 → Md → Prop) : Md → Int32 → Int32 → Prop := fun t0 z1 z2 => wp_X7_leftOf (fun r_13 => ((0 < r_13 → wp_X7_takesBack (fun u_17 => P7 (-2) u_17) t0) ∧ (¬ 0 < r_13 → ((z2 ≤ 9999 → wp_X7_takesBack (fun u_20 => P7 z2 u_20) t0) ∧ (¬ z2 ≤ 9999 → wp_X7_takesBack (fun u_22 => P7 (-2) u_22) t0))))) t0 z1
theorem er_end {P7 : Int32 → Md → Prop} {m u v : Md} {z1 z2 : Int32} {R W D : Int} (as : ASD m u) (tg : TG u v) (hf : rw_ok R W D (v.2.2.1 0)) (hD : 0 < D) (hx : 0 ≤ z1.toInt ∧ z1.toInt < R * W) (h : ER P7 v z1 z2) : ∃ m', NB m m' ∧ P7 (if 0 < LE (v.2.2.1 0) z1.toInt.toNat ∨ 9999 < z2.toInt then -2 else z2) m' := by
  have e0 : (0 : Int32).toInt = 0 := rfl
  have e9 : (9999 : Int32).toInt = 9999 := rfl
  unfold ER at h
  obtain ⟨r, h, er⟩ := e7_leftOf hf hD hx.1 hx.2 h
  by_cases c : 0 < r
  · have := q_lt c
    obtain ⟨m', h, tb⟩ := e7_takesBack (h.1 c)
    rw [if_pos (Or.inl (by omega))]
    exact ⟨m', NB_tb as tg tb, h⟩
  · have := q_nlt c
    have h := h.2 c
    by_cases c2 : z2 ≤ 9999
    · have := q_le c2
      obtain ⟨m', h, tb⟩ := e7_takesBack (h.1 c2)
      rw [if_neg (by omega)]
      exact ⟨m', NB_tb as tg tb, h⟩
    · have := q_nle c2
      obtain ⟨m', h, tb⟩ := e7_takesBack (h.2 c2)
      rw [if_pos (Or.inr (by omega))]
      exact ⟨m', NB_tb as tg tb, h⟩
theorem sm_rests_L {P6 : Int32 → Bd → Mo → Prop} {P7 : Int32 → Md → Prop} {s2 : Bd} {m u : Md} {z1 : Int32} {N R W D : Int} (hD : 0 < D) (as : ASD m u) (hx : 0 ≤ z1.toInt ∧ z1.toInt < R * W) : ∀ (n6 n7 : Nat) (b : Bd) (t : Mo) (v : Md) (z2 : Int32), 0 ≤ z2.toInt → z2.toInt ≤ 10000 → TG u v → mb N R W D v → RB b (v.2.2.1 0) → wp_X6_rests_L26 s2 P6 (fun t2 t3 _ _ => P6 (-2) t2 t3) n6 b t z1 z2 → wp_X7_rests_L16 P7 (ER P7) n7 v z1 z2 → ∃ r b t m', P6 r b t ∧ P7 r m' ∧ NB m m' := by
  have e0 : (0 : Int32).toInt = 0 := rfl
  have e1 : (1 : Int32).toInt = 1 := rfl
  have e9 : (9999 : Int32).toInt = 9999 := rfl
  intro n6
  induction n6 with
  | zero =>
    intro n7 b t v z2 _ _ _ _ _ h
    exact (show False from h).elim
  | succ n6 ih =>
    intro n7 b t v z2 h0 h1 tg hM hB h6 h7
    have hf := hM.2.2.2.2.1
    have lb := LE_b hf hD (c := z1.toInt.toNat) (by omega)
    cases n7 with
    | zero => exact (show False from h7).elim
    | succ n7 =>
      unfold wp_X6_rests_L26 at h6
      unfold wp_X7_rests_L16 at h7
      obtain ⟨r, h7, er⟩ := e7_leftOf hf hD hx.1 hx.2 h7
      by_cases c9 : 9999 < z2
      · have := q_lt c9
        have h7 : ER P7 v z1 z2 := by
          by_cases c : r ≤ 0
          · exact h7.1 c
          · exact (h7.2 c).1 c9
        obtain ⟨m', nb, h7⟩ := er_end as tg hf hD hx h7
        rw [if_pos (Or.inr (by omega))] at h7
        exact ⟨_, b, t, m', h6.1 c9, h7, nb⟩
      · have := q_nlt c9
        obtain ⟨r', h6, er'⟩ := e0_leftOf hf hD hB hx.1 hx.2 (h6.2 c9)
        have ee : r' = r := Int32.toInt_inj.mp (er'.trans er.symm)
        subst ee
        by_cases c : r' ≤ 0
        · have := q_le c
          have c0 : r' = 0 := Int32.toInt_inj.mp (by omega)
          obtain ⟨m', nb, h7⟩ := er_end as tg hf hD hx (h7.1 c)
          rw [if_neg (by omega)] at h7
          exact ⟨_, b, t, m', h6.2 c0, h7, nb⟩
        · have := q_nle c
          have c0 : ¬ r' = 0 := fun q => by rw [q, e0] at this; omega
          have h7 := (h7.2 c).2 c9
          obtain ⟨k, t', b', v', r1, r2, r3, r4, r5, r6, r7⟩ := sm_trn hM hD hB (by decide) (by decide) (h6.1 c0)
          rw [e1] at r6 r7
          cases k with
          | zero =>
            obtain ⟨g, ev⟩ := r2
            subst ev
            have idl : IDL (v'.2.2.1 0) R W := by
              rcases r7 with q | q
              · omega
              · exact q
            obtain ⟨w, h7, w2, w3, w4⟩ := e7_idle r4 hD hB idl h7
            have tz : t'.1 2 = 0 := g 2 (by decide) (by decide)
            obtain ⟨m', nb, h7⟩ := er_end as (TG_tr tg w4) w3.2.2.2.2.1 hD hx (h7.1 (by decide))
            rw [w2, if_pos (Or.inl (by omega))] at h7
            exact ⟨_, b', t', m', r1.2 tz, h7, nb⟩
          | succ k =>
            have k0 : k = 0 := by omega
            subst k0
            obtain ⟨v1, rr, fo, g, g2, ev⟩ := r2
            subst ev
            have tz : t'.1 2 = 1 := (g2 2 (by decide) (by decide)).trans rfl
            have h7 := (g.1 _ h7).2 (fun c => by have := q_le c; have := g.2.2.1; omega)
            have s := nw (tq_addr e1 z2) (by omega)
            exact ih n7 b' t' v' (z2 + 1) (by omega) (by omega) (TG_tr tg r5) r4 r3 (r1.1 (by rw [tz]; decide)) h7
theorem sm_rests {P6 : Int32 → Bd → Mo → Prop} {P7 : Int32 → Md → Prop} {s2 s3 : Bd} {s4 : Mo} {m : Md} {x1 : Int32} {N R W D : Int} (hB : RB s2 (m.2.2.1 0)) (hM : mb N R W D m) (hs : R ≤ 0 ∨ 0 < D) (h6 : wp_X6_rests P6 s2 s3 s4 x1) (h7 : wp_X7_rests P7 m x1) : ∃ r b t m', P6 r b t ∧ P7 r m' ∧ NB m m' := by
  have e0 : (0 : Int32).toInt = 0 := rfl
  have hf := hM.2.2.2.2.1
  have hR := hf.2.2.2.2.2.1
  have rc := RB_cells hf hB
  unfold wp_X6_rests at h6
  unfold wp_X7_rests at h7
  rcases e0_hasCell rc.2.2.1 h6 with ⟨h6, g1, g2⟩ | ⟨h6, g⟩
  · rcases e7_isCell hf h7 with ⟨h7, _, _⟩ | ⟨_, g⟩
    · have hD : 0 < D := by omega
      obtain ⟨cp, h6, ag, _⟩ := e0_copyBut (h6.1 (by decide))
      obtain ⟨u, h7, as⟩ := e7_putsAside (h7.1 (by decide))
      have mu := ASD_mb hM hs as
      have u0 : u.2.2.1 0 = m.2.2.1 0 := as.2.2.2.1 0 (by decide)
      obtain ⟨n6, h6⟩ := h6
      obtain ⟨n7, h7⟩ := h7
      exact sm_rests_L hD as ⟨g1, g2⟩ n6 n7 cp s4 u 0 (by decide) (by decide) (TG_rf u) mu (by rw [u0]; exact RB_ag hf ag hB) h6 h7
    · omega
  · rcases e7_isCell hf h7 with ⟨_, _, _⟩ | ⟨h7, _⟩
    · omega
    · exact ⟨_, s3, s4, m, h6.2 rfl, h7.2 rfl, NB_rf m⟩
