def JJ (N : Int) (s1 : Tp) (s2 s3 : Bd) (s4 : Mo) (s5 : Pg) (s6 : Pa) (z7 : Nat → Option Bd) (m : Md) : Prop := cs_ok N s1 s2 s3 s4 s5 s6 z7 ∧ (∃ R W D, mb N R W D m ∧ (R ≤ 0 ∨ 0 < D)) ∧ RX s1 m ∧ RB s2 (m.2.2.1 0) ∧ RP s6 m ∧ RSh z7 m
theorem RX_k {t u : Tp} {s v : Md} {M : Int} (h : RX t s) (h2 : u.2 = t.2) (h0 : u.1 0 = v.1 5) (h5 : (v.1 5).toInt = M) (hM : 0 ≤ M ∧ M ≤ 400) (ht : v.2.2.2 2 = s.2.2.2 2) : RX u v := by
  obtain ⟨a1, a2, a3, a4, a5⟩ := h
  refine ⟨h0, ?_, by omega, by omega, ?_⟩
  · rw [h2, a2, ht]
  · rw [ht]
    exact a5
set_option maxHeartbeats 4000000 in
theorem pm_feed {s1 : Tp} {s2 s3 : Bd} {s4 : Mo} {s5 : Pg} {s6 : Pa} {z7 : Nat → Option Bd} {m : Md} {N : Int} {x1 : Int32} {x2 : Int32} {x3 : Int32} {x4 : Int32} {x5 : Int32} (hJ : JJ N s1 s2 s3 s4 s5 s6 z7 m) : ∃ (r6 r7 : Int32) (M : Int) (s1n : Tp) (mn : Md), (∀ Q : Int32 → Tp → Prop, Q r6 s1n → wp_X6_feed Q s1 x1 x2 x3 x4 x5) ∧ (∀ Q : Int32 → Md → Prop, Q r7 mn → wp_X7_feed Q m x1 x2 x3 x4 x5) ∧ JJ M s1n s2 s3 s4 s5 s6 z7 mn := by
  have hJ0 := hJ
  obtain ⟨⟨k1, ⟨R, W, k2⟩, ⟨R3, W3, k3⟩, k4, k5, k6, k7⟩, ⟨R7, W7, D7, kM, kD⟩, hx, hRB, hRP, hRS⟩ := hJ
  obtain ⟨o, a6, v6, _⟩ := dt_X6_feed s1 x1 x2 x3 x4 x5 (fun o => (∃ M, tz M o.2 ∧ ((o.1.toInt = M ∧ M = N + 20 ∧ N + 20 ≤ 400) ∨ (o.1.toInt = -1 ∧ M = N ∧ 400 < N + 20)))) (wq_X6_feed k1 (fun r u M b0 b1 => ⟨M, b0, b1⟩))
  obtain ⟨r6, s1n⟩ := o
  obtain ⟨M6, t6, l6⟩ := a6
  obtain ⟨o7, a7, v7, _⟩ := dt_X7_feed m x1 x2 x3 x4 x5 (fun o => ∃ M R W D9, mb M R W D9 o.2 ∧ (R ≤ 0 ∨ 0 < D9) ∧ ((o.1.toInt = M ∧ M = N + 20 ∧ N + 20 ≤ 400) ∨ (o.1.toInt = -1 ∧ M = N ∧ 400 < N + 20))) (wq_X7_feed kM (fun r u M b0 b1 => ⟨M, R7, W7, D7, b0, kD, b1⟩))
  obtain ⟨r7, mn⟩ := o7
  obtain ⟨M7, R8, W8, D8, m7, d7, l7⟩ := a7
  obtain ⟨rr, tt, vv, e6, e7, hxn⟩ := sm_feed (P6 := fun r u => (r, u) = (r6, s1n)) (P7 := fun r u => (r, u) = (r7, mn)) hx (v6 (fun x => x = (r6, s1n)) rfl) (v7 (fun x => x = (r7, mn)) rfl)
  have q6 := Prod.mk.inj e6
  have q7 := Prod.mk.inj e7
  rw [q6.2, q7.2] at hxn
  have m70 := m7
  have eM : M7 = M6 := by omega
  rw [eM] at m7
  obtain ⟨o2, o2e, hp⟩ := fp_X7_feed m x1 x2 x3 x4 x5 (fun x => x = (r7, mn)) (v7 (fun x => x = (r7, mn)) rfl)
  rw [o2e] at hp
  obtain ⟨o3, o3e, hw⟩ := fw_X7_feed m x1 x2 x3 x4 x5 (fun x => x = (r7, mn)) (v7 (fun x => x = (r7, mn)) rfl)
  rw [o3e] at hw
  have hp : mn.1 0 = m.1 0 ∧ mn.2.2.1 1 = m.2.2.1 1 ∧ mn.2.2.1 2 = m.2.2.1 2 ∧ mn.2.2.2 0 = m.2.2.2 0 := by simpa only [Prod.mk.injEq] using hp
  have hw : mn.2.2.1 0 = m.2.2.1 0 := hw
  have jB : RB s2 (mn.2.2.1 0) := by rw [hw]; exact hRB
  have jP := RP_k hRP hp.1 hp.2.1
  have jS : RSh z7 mn := RSh_k hRS hp.2.2.2 hp.2.2.1
  exact ⟨r6, r7, M6, s1n, mn, fun Q h => v6 (fun o => Q o.1 o.2) h, fun Q h => v7 (fun o => Q o.1 o.2) h, ⟨⟨t6, ⟨R, W, k2⟩, ⟨R3, W3, k3⟩, k4, k5, k6, k7⟩, ⟨R8, W8, D8, m7, d7⟩, hxn, jB, jP, jS⟩⟩
set_option maxHeartbeats 4000000 in
theorem pm_end {s1 : Tp} {s2 s3 : Bd} {s4 : Mo} {s5 : Pg} {s6 : Pa} {z7 : Nat → Option Bd} {m : Md} {N : Int} {x1 : Int32} (hJ : JJ N s1 s2 s3 s4 s5 s6 z7 m) : ∃ (r6 r7 : Int32) (M : Int) (s1n : Tp) (mn : Md), (∀ Q : Int32 → Tp → Prop, Q r6 s1n → wp_X6_end Q s1 x1) ∧ (∀ Q : Int32 → Md → Prop, Q r7 mn → wp_X7_end Q m x1) ∧ JJ M s1n s2 s3 s4 s5 s6 z7 mn := by
  have hJ0 := hJ
  obtain ⟨⟨k1, ⟨R, W, k2⟩, ⟨R3, W3, k3⟩, k4, k5, k6, k7⟩, ⟨R7, W7, D7, kM, kD⟩, hx, hRB, hRP, hRS⟩ := hJ
  obtain ⟨o, a6, v6, _⟩ := dt_X6_end s1 x1 (fun o => (∃ M, tz M o.2 ∧ ((o.1.toInt = x1.toInt ∧ M = x1.toInt ∧ 0 ≤ x1.toInt ∧ x1.toInt ≤ N) ∨ (o.1.toInt = -1 ∧ M = N ∧ (x1.toInt < 0 ∨ N < x1.toInt))))) (wq_X6_end k1 (fun r u M b0 b1 => ⟨M, b0, b1⟩))
  obtain ⟨r6, s1n⟩ := o
  obtain ⟨M6, t6, l6⟩ := a6
  obtain ⟨o7, a7, v7, _⟩ := dt_X7_end m x1 (fun o => ∃ M R W D9, mb M R W D9 o.2 ∧ (R ≤ 0 ∨ 0 < D9) ∧ ((o.1.toInt = x1.toInt ∧ M = x1.toInt ∧ 0 ≤ x1.toInt ∧ x1.toInt ≤ N) ∨ (o.1.toInt = -1 ∧ M = N ∧ (x1.toInt < 0 ∨ N < x1.toInt)))) (wq_X7_end kM (fun r u M b0 b1 => ⟨M, R7, W7, D7, b0, kD, b1⟩))
  obtain ⟨o8, o8e, ht⟩ := fx_X7_end m x1 (fun x => x = o7) (v7 (fun x => x = o7) rfl)
  rw [o8e] at ht
  obtain ⟨r7, mn⟩ := o7
  obtain ⟨M7, R8, W8, D8, m7, d7, l7⟩ := a7
  have ht : mn.2.2.2 2 = m.2.2.2 2 := ht
  obtain ⟨o9, o9e, hb⟩ := ft_X6_end s1 x1 (fun x => x = (r6, s1n)) (v6 (fun x => x = (r6, s1n)) rfl)
  rw [o9e] at hb
  have hb : s1n.2 = s1.2 := hb
  have m70 := m7
  have eM : M7 = M6 := by omega
  rw [eM] at m7
  have hxn : RX s1n mn := RX_k hx hb (Int32.toInt_inj.mp (t6.1.trans m7.1.symm)) m7.1 m7.2.2.1 ht
  obtain ⟨o2, o2e, hp⟩ := fp_X7_end m x1 (fun x => x = (r7, mn)) (v7 (fun x => x = (r7, mn)) rfl)
  rw [o2e] at hp
  obtain ⟨o3, o3e, hw⟩ := fw_X7_end m x1 (fun x => x = (r7, mn)) (v7 (fun x => x = (r7, mn)) rfl)
  rw [o3e] at hw
  have hp : mn.1 0 = m.1 0 ∧ mn.2.2.1 1 = m.2.2.1 1 ∧ mn.2.2.1 2 = m.2.2.1 2 ∧ mn.2.2.2 0 = m.2.2.2 0 := by simpa only [Prod.mk.injEq] using hp
  have hw : mn.2.2.1 0 = m.2.2.1 0 := hw
  have jB : RB s2 (mn.2.2.1 0) := by rw [hw]; exact hRB
  have jP := RP_k hRP hp.1 hp.2.1
  have jS : RSh z7 mn := RSh_k hRS hp.2.2.2 hp.2.2.1
  exact ⟨r6, r7, M6, s1n, mn, fun Q h => v6 (fun o => Q o.1 o.2) h, fun Q h => v7 (fun o => Q o.1 o.2) h, ⟨⟨t6, ⟨R, W, k2⟩, ⟨R3, W3, k3⟩, k4, k5, k6, k7⟩, ⟨R8, W8, D8, m7, d7⟩, hxn, jB, jP, jS⟩⟩
set_option maxHeartbeats 4000000 in
theorem pm_tell {s1 : Tp} {s2 s3 : Bd} {s4 : Mo} {s5 : Pg} {s6 : Pa} {z7 : Nat → Option Bd} {m : Md} {N : Int}  (hJ : JJ N s1 s2 s3 s4 s5 s6 z7 m) : ∃ (r6 r7 : Int32) (M : Int) (s1n : Tp) (s2n : Bd) (s3n : Bd) (s6n : Pa) (mn : Md), (∀ Q : Int32 → Tp → Bd → Bd → Pa → Prop, Q r6 s1n s2n s3n s6n → wp_X6_tell Q s1 s2 s3 s6) ∧ (∀ Q : Int32 → Md → Prop, Q r7 mn → wp_X7_tell Q m ) ∧ s6n.2 = s6.2 ∧ JJ M s1n s2n s3n s4 s5 s6n z7 mn := by
  have hJ0 := hJ
  obtain ⟨⟨k1, ⟨R, W, k2⟩, ⟨R3, W3, k3⟩, k4, k5, k6, k7⟩, ⟨R7, W7, D7, kM, kD⟩, hx, hRB, hRP, hRS⟩ := hJ
  obtain ⟨o, a6, v6, _⟩ := dt_X6_tell s1 s2 s3 s6 (fun o => (∃ M, tz M o.2.1 ∧ M = 0) ∧ bx o.2.2.1 ∧ bx o.2.2.2.1 ∧ (pa o.2.2.2.2 ∧ o.2.2.2.2.2 = s6.2)) (wq_X6_tell k1 k2 k3 k6 (fun r ua ub uc ud R4 W4 R5 W5 b0 b1 b2 b3 b4 => ⟨⟨0, b0, rfl⟩, ⟨R4, W4, b1⟩, ⟨R5, W5, b2⟩, ⟨b3, b4⟩⟩))
  obtain ⟨r6, s1n, s2n, s3n, s6n⟩ := o
  obtain ⟨⟨M6, t6, l6⟩, g1, g2, ⟨pa6, pe6⟩⟩ := a6
  obtain ⟨o7, a7, v7, _⟩ := dt_X7_tell m  (fun o => ∃ M R W D9, mb M R W D9 o.2 ∧ (R ≤ 0 ∨ 0 < D9) ∧ M = 0) (wq_X7_tell kM kD (fun r u R4 W4 D4 b0 b1 => ⟨0, R4, W4, D4, b0, b1, rfl⟩))
  obtain ⟨o8, o8e, ht⟩ := fx_X7_tell m  (fun x => x = o7) (v7 (fun x => x = o7) rfl)
  rw [o8e] at ht
  obtain ⟨r7, mn⟩ := o7
  obtain ⟨M7, R8, W8, D8, m7, d7, l7⟩ := a7
  have ht : mn.2.2.2 2 = m.2.2.2 2 := ht
  obtain ⟨o9, o9e, hb⟩ := ft_X6_tell s1 s2 s3 s6 (fun x => x = (r6, s1n, s2n, s3n, s6n)) (v6 (fun x => x = (r6, s1n, s2n, s3n, s6n)) rfl)
  rw [o9e] at hb
  have hb : s1n.2 = s1.2 := hb
  have m70 := m7
  have eM : M7 = M6 := by omega
  rw [eM] at m7
  have hxn : RX s1n mn := RX_k hx hb (Int32.toInt_inj.mp (t6.1.trans m7.1.symm)) m7.1 m7.2.2.1 ht
  have hq : ∀ r v, (fun r u => (r, u) = (r7, mn)) r v → ∃ N R W D, mb N R W D v := fun r v e => ⟨M7, R8, W8, D8, by rw [(Prod.mk.inj e).2]; exact m70⟩
  obtain ⟨ra, y_s1, y_s2, y_s3, y_s6, ym, e6, e7, aB, aP, aS⟩ := sm_tellF (P6 := fun r a_s1 a_s2 a_s3 a_s6 => (r, a_s1, a_s2, a_s3, a_s6) = (r6, s1n, s2n, s3n, s6n)) (P7 := fun r u => (r, u) = (r7, mn)) hx hRB hRP hRS kM kD hq (v6 (fun x => x = (r6, s1n, s2n, s3n, s6n)) rfl) (v7 (fun x => x = (r7, mn)) rfl)
  have f7 : ra = r7 ∧ ym = mn := by simpa only [Prod.mk.injEq] using e7
  have f6 : ra = r6 ∧ y_s1 = s1n ∧ y_s2 = s2n ∧ y_s3 = s3n ∧ y_s6 = s6n := by simpa only [Prod.mk.injEq] using e6
  try rw [f7.2] at aB
  try rw [f6.2.2.1] at aB
  try rw [f6.2.2.2.2] at aB
  try rw [f7.2] at aP
  try rw [f6.2.2.1] at aP
  try rw [f6.2.2.2.2] at aP
  try rw [f7.2] at aS
  try rw [f6.2.2.1] at aS
  try rw [f6.2.2.2.2] at aS
  have jB := aB
  have jP := aP
  have jS := aS
  exact ⟨r6, r7, M6, s1n, s2n, s3n, s6n, mn, fun Q h => v6 (fun o => Q o.1 o.2.1 o.2.2.1 o.2.2.2.1 o.2.2.2.2) h, fun Q h => v7 (fun o => Q o.1 o.2) h, pe6, ⟨⟨t6, g1, g2, k4, k5, pa6, k7⟩, ⟨R8, W8, D8, m7, d7⟩, hxn, jB, jP, jS⟩⟩
set_option maxHeartbeats 4000000 in
theorem pm_row {s1 : Tp} {s2 s3 : Bd} {s4 : Mo} {s5 : Pg} {s6 : Pa} {z7 : Nat → Option Bd} {m : Md} {N : Int} {x1 : Int32} (hJ : JJ N s1 s2 s3 s4 s5 s6 z7 m) : ∃ (r6 r7 : Int32) (M : Int) (s1n : Tp) (s2n : Bd) (s6n : Pa) (mn : Md), (∀ Q : Int32 → Tp → Bd → Pa → Prop, Q r6 s1n s2n s6n → wp_X6_row Q s1 s2 s6 x1) ∧ (∀ Q : Int32 → Md → Prop, Q r7 mn → wp_X7_row Q m x1) ∧ JJ M s1n s2n s3 s4 s5 s6n z7 mn := by
  have hJ0 := hJ
  obtain ⟨⟨k1, ⟨R, W, k2⟩, ⟨R3, W3, k3⟩, k4, k5, k6, k7⟩, ⟨R7, W7, D7, kM, kD⟩, hx, hRB, hRP, hRS⟩ := hJ
  obtain ⟨o, a6, v6, _⟩ := dt_X6_row s1 s2 s6 x1 (fun o => (∃ M, tz M o.2.1 ∧ M = 0) ∧ bx o.2.2.1 ∧ pa o.2.2.2) (wq_X6_row k1 k2 k6 (fun r ua ub uc b0 b1 b2 => ⟨⟨0, b0, rfl⟩, ⟨R, W, b1⟩, b2⟩))
  obtain ⟨r6, s1n, s2n, s6n⟩ := o
  obtain ⟨⟨M6, t6, l6⟩, g1, g2⟩ := a6
  obtain ⟨o7, a7, v7, _⟩ := dt_X7_row m x1 (fun o => ∃ M R W D9, mb M R W D9 o.2 ∧ (R ≤ 0 ∨ 0 < D9) ∧ M = 0) (wq_X7_row kM kD (fun r u b0 => ⟨0, R7, W7, D7, b0, kD, rfl⟩))
  obtain ⟨o8, o8e, ht⟩ := fx_X7_row m x1 (fun x => x = o7) (v7 (fun x => x = o7) rfl)
  rw [o8e] at ht
  obtain ⟨r7, mn⟩ := o7
  obtain ⟨M7, R8, W8, D8, m7, d7, l7⟩ := a7
  have ht : mn.2.2.2 2 = m.2.2.2 2 := ht
  obtain ⟨o9, o9e, hb⟩ := ft_X6_row s1 s2 s6 x1 (fun x => x = (r6, s1n, s2n, s6n)) (v6 (fun x => x = (r6, s1n, s2n, s6n)) rfl)
  rw [o9e] at hb
  have hb : s1n.2 = s1.2 := hb
  have m70 := m7
  have eM : M7 = M6 := by omega
  rw [eM] at m7
  have hxn : RX s1n mn := RX_k hx hb (Int32.toInt_inj.mp (t6.1.trans m7.1.symm)) m7.1 m7.2.2.1 ht
  obtain ⟨ra, y_s1, y_s2, y_s6, ym, e6, e7, ar⟩ := sm_row (P6 := fun r a_s1 a_s2 a_s6 => (r, a_s1, a_s2, a_s6) = (r6, s1n, s2n, s6n)) (P7 := fun r u => (r, u) = (r7, mn)) hx k6 hRP hRB kM kD (v6 (fun x => x = (r6, s1n, s2n, s6n)) rfl) (v7 (fun x => x = (r7, mn)) rfl)
  have f7 : ra = r7 ∧ ym = mn := by simpa only [Prod.mk.injEq] using e7
  have f6 : ra = r6 ∧ y_s1 = s1n ∧ y_s2 = s2n ∧ y_s6 = s6n := by simpa only [Prod.mk.injEq] using e6
  rw [f7.2, f6.2.2.1, f6.2.2.2] at ar
  have jB := ar.1
  have jP := ar.2.1
  have jS : RSh z7 mn := RSh_k hRS ar.2.2.1 ar.2.2.2
  exact ⟨r6, r7, M6, s1n, s2n, s6n, mn, fun Q h => v6 (fun o => Q o.1 o.2.1 o.2.2.1 o.2.2.2) h, fun Q h => v7 (fun o => Q o.1 o.2) h, ⟨⟨t6, g1, ⟨R3, W3, k3⟩, k4, k5, g2, k7⟩, ⟨R8, W8, D8, m7, d7⟩, hxn, jB, jP, jS⟩⟩
set_option maxHeartbeats 4000000 in
theorem pm_scroll {s1 : Tp} {s2 s3 : Bd} {s4 : Mo} {s5 : Pg} {s6 : Pa} {z7 : Nat → Option Bd} {m : Md} {N : Int}  (hJ : JJ N s1 s2 s3 s4 s5 s6 z7 m) : ∃ (r6 r7 : Int32) (M : Int) (s1n : Tp) (s2n : Bd) (s6n : Pa) (mn : Md), (∀ Q : Int32 → Tp → Bd → Pa → Prop, Q r6 s1n s2n s6n → wp_X6_scroll Q s1 s2 s6) ∧ (∀ Q : Int32 → Md → Prop, Q r7 mn → wp_X7_scroll Q m ) ∧ JJ M s1n s2n s3 s4 s5 s6n z7 mn := by
  have hJ0 := hJ
  obtain ⟨⟨k1, ⟨R, W, k2⟩, ⟨R3, W3, k3⟩, k4, k5, k6, k7⟩, ⟨R7, W7, D7, kM, kD⟩, hx, hRB, hRP, hRS⟩ := hJ
  obtain ⟨o, a6, v6, _⟩ := dt_X6_scroll s1 s2 s6 (fun o => (∃ M, tz M o.2.1 ∧ M = 0) ∧ bx o.2.2.1 ∧ pa o.2.2.2) (wq_X6_scroll k1 k2 k6 (fun r ua ub uc b0 b1 b2 => ⟨⟨0, b0, rfl⟩, ⟨R, W, b1⟩, b2⟩))
  obtain ⟨r6, s1n, s2n, s6n⟩ := o
  obtain ⟨⟨M6, t6, l6⟩, g1, g2⟩ := a6
  obtain ⟨o7, a7, v7, _⟩ := dt_X7_scroll m  (fun o => ∃ M R W D9, mb M R W D9 o.2 ∧ (R ≤ 0 ∨ 0 < D9) ∧ M = 0) (wq_X7_scroll kM kD (fun r u b0 => ⟨0, R7, W7, D7, b0, kD, rfl⟩))
  obtain ⟨o8, o8e, ht⟩ := fx_X7_scroll m  (fun x => x = o7) (v7 (fun x => x = o7) rfl)
  rw [o8e] at ht
  obtain ⟨r7, mn⟩ := o7
  obtain ⟨M7, R8, W8, D8, m7, d7, l7⟩ := a7
  have ht : mn.2.2.2 2 = m.2.2.2 2 := ht
  obtain ⟨o9, o9e, hb⟩ := ft_X6_scroll s1 s2 s6 (fun x => x = (r6, s1n, s2n, s6n)) (v6 (fun x => x = (r6, s1n, s2n, s6n)) rfl)
  rw [o9e] at hb
  have hb : s1n.2 = s1.2 := hb
  have m70 := m7
  have eM : M7 = M6 := by omega
  rw [eM] at m7
  have hxn : RX s1n mn := RX_k hx hb (Int32.toInt_inj.mp (t6.1.trans m7.1.symm)) m7.1 m7.2.2.1 ht
  obtain ⟨ra, y_s1, y_s2, y_s6, ym, e6, e7, ar⟩ := sm_scroll (P6 := fun r a_s1 a_s2 a_s6 => (r, a_s1, a_s2, a_s6) = (r6, s1n, s2n, s6n)) (P7 := fun r u => (r, u) = (r7, mn)) hx k6 hRP hRB kM kD (v6 (fun x => x = (r6, s1n, s2n, s6n)) rfl) (v7 (fun x => x = (r7, mn)) rfl)
  have f7 : ra = r7 ∧ ym = mn := by simpa only [Prod.mk.injEq] using e7
  have f6 : ra = r6 ∧ y_s1 = s1n ∧ y_s2 = s2n ∧ y_s6 = s6n := by simpa only [Prod.mk.injEq] using e6
  rw [f7.2, f6.2.2.1, f6.2.2.2] at ar
  have jB := ar.1
  have jP := ar.2.1
  have jS : RSh z7 mn := RSh_k hRS ar.2.2.1 ar.2.2.2
  exact ⟨r6, r7, M6, s1n, s2n, s6n, mn, fun Q h => v6 (fun o => Q o.1 o.2.1 o.2.2.1 o.2.2.2) h, fun Q h => v7 (fun o => Q o.1 o.2) h, ⟨⟨t6, g1, ⟨R3, W3, k3⟩, k4, k5, g2, k7⟩, ⟨R8, W8, D8, m7, d7⟩, hxn, jB, jP, jS⟩⟩
set_option maxHeartbeats 4000000 in
theorem pm_tick {s1 : Tp} {s2 s3 : Bd} {s4 : Mo} {s5 : Pg} {s6 : Pa} {z7 : Nat → Option Bd} {m : Md} {N : Int} {x1 : Int32} (hJ : JJ N s1 s2 s3 s4 s5 s6 z7 m) : ∃ (r6 r7 : Int32) (M : Int) (s2n : Bd) (s4n : Mo) (s6n : Pa) (mn : Md), (∀ Q : Int32 → Bd → Mo → Pa → Prop, Q r6 s2n s4n s6n → wp_X6_tick Q s2 s4 s6 x1) ∧ (∀ Q : Int32 → Md → Prop, Q r7 mn → wp_X7_tick Q m x1) ∧ JJ M s1 s2n s3 s4n s5 s6n z7 mn := by
  have hJ0 := hJ
  obtain ⟨⟨k1, ⟨R, W, k2⟩, ⟨R3, W3, k3⟩, k4, k5, k6, k7⟩, ⟨R7, W7, D7, kM, kD⟩, hx, hRB, hRP, hRS⟩ := hJ
  obtain ⟨o, a6, v6, _⟩ := dt_X6_tick s2 s4 s6 x1 (fun o => bx o.2.1 ∧ mo o.2.2.1 ∧ pa o.2.2.2) (wq_X6_tick k2 k4 k6 (fun r ua ub uc b0 b1 b2 => ⟨⟨R, W, b0⟩, b1, b2⟩))
  obtain ⟨r6, s2n, s4n, s6n⟩ := o
  obtain ⟨g0, g1, g2⟩ := a6
  obtain ⟨o7, a7, v7, _⟩ := dt_X7_tick m x1 (fun o => ∃ M R W D9, mb M R W D9 o.2 ∧ (R ≤ 0 ∨ 0 < D9) ∧ M = N) (wq_X7_tick kM kD (fun r u b0 => ⟨N, R7, W7, D7, b0, kD, rfl⟩))
  obtain ⟨o8, o8e, ht⟩ := fx_X7_tick m x1 (fun x => x = o7) (v7 (fun x => x = o7) rfl)
  rw [o8e] at ht
  obtain ⟨r7, mn⟩ := o7
  obtain ⟨M7, R8, W8, D8, m7, d7, l7⟩ := a7
  have ht : mn.2.2.2 2 = m.2.2.2 2 := ht
  have m70 := m7
  have eM : M7 = N := by omega
  rw [eM] at m7
  have hxn : RX s1 mn := RX_k hx rfl (Int32.toInt_inj.mp (k1.1.trans m7.1.symm)) m7.1 m7.2.2.1 ht
  obtain ⟨ra, y_s2, y_s4, y_s6, ym, e6, e7, ar⟩ := sm_tick (P6 := fun r a_s2 a_s4 a_s6 => (r, a_s2, a_s4, a_s6) = (r6, s2n, s4n, s6n)) (P7 := fun r u => (r, u) = (r7, mn)) k6 hRP hRB kM kD (v6 (fun x => x = (r6, s2n, s4n, s6n)) rfl) (v7 (fun x => x = (r7, mn)) rfl)
  have f7 : ra = r7 ∧ ym = mn := by simpa only [Prod.mk.injEq] using e7
  have f6 : ra = r6 ∧ y_s2 = s2n ∧ y_s4 = s4n ∧ y_s6 = s6n := by simpa only [Prod.mk.injEq] using e6
  rw [f7.2, f6.2.1, f6.2.2.2] at ar
  have jB := ar.1
  have jP := ar.2.1
  have jS : RSh z7 mn := RSh_k hRS ar.2.2.1 ar.2.2.2
  exact ⟨r6, r7, N, s2n, s4n, s6n, mn, fun Q h => v6 (fun o => Q o.1 o.2.1 o.2.2.1 o.2.2.2) h, fun Q h => v7 (fun o => Q o.1 o.2) h, ⟨⟨k1, g0, ⟨R3, W3, k3⟩, g1, k5, g2, k7⟩, ⟨R8, W8, D8, m7, d7⟩, hxn, jB, jP, jS⟩⟩
set_option maxHeartbeats 4000000 in
theorem pm_settle {s1 : Tp} {s2 s3 : Bd} {s4 : Mo} {s5 : Pg} {s6 : Pa} {z7 : Nat → Option Bd} {m : Md} {N : Int}  (hJ : JJ N s1 s2 s3 s4 s5 s6 z7 m) : ∃ (r6 r7 : Int32) (M : Int) (s2n : Bd) (s4n : Mo) (s6n : Pa) (mn : Md), (∀ Q : Int32 → Bd → Mo → Pa → Prop, Q r6 s2n s4n s6n → wp_X6_settle Q s2 s4 s6) ∧ (∀ Q : Int32 → Md → Prop, Q r7 mn → wp_X7_settle Q m ) ∧ JJ M s1 s2n s3 s4n s5 s6n z7 mn := by
  have hJ0 := hJ
  obtain ⟨⟨k1, ⟨R, W, k2⟩, ⟨R3, W3, k3⟩, k4, k5, k6, k7⟩, ⟨R7, W7, D7, kM, kD⟩, hx, hRB, hRP, hRS⟩ := hJ
  obtain ⟨o, a6, v6, _⟩ := dt_X6_settle s2 s4 s6 (fun o => bx o.2.1 ∧ mo o.2.2.1 ∧ pa o.2.2.2) (wq_X6_settle k2 k4 k6 (fun r ua ub uc b0 b1 b2 => ⟨⟨R, W, b0⟩, b1, b2⟩))
  obtain ⟨r6, s2n, s4n, s6n⟩ := o
  obtain ⟨g0, g1, g2⟩ := a6
  obtain ⟨o7, a7, v7, _⟩ := dt_X7_settle m  (fun o => ∃ M R W D9, mb M R W D9 o.2 ∧ (R ≤ 0 ∨ 0 < D9) ∧ M = N) (wq_X7_settle kM kD (fun r u b0 => ⟨N, R7, W7, D7, b0, kD, rfl⟩))
  obtain ⟨o8, o8e, ht⟩ := fx_X7_settle m  (fun x => x = o7) (v7 (fun x => x = o7) rfl)
  rw [o8e] at ht
  obtain ⟨r7, mn⟩ := o7
  obtain ⟨M7, R8, W8, D8, m7, d7, l7⟩ := a7
  have ht : mn.2.2.2 2 = m.2.2.2 2 := ht
  have m70 := m7
  have eM : M7 = N := by omega
  rw [eM] at m7
  have hxn : RX s1 mn := RX_k hx rfl (Int32.toInt_inj.mp (k1.1.trans m7.1.symm)) m7.1 m7.2.2.1 ht
  obtain ⟨ra, y_s2, y_s4, y_s6, ym, e6, e7, ar⟩ := sm_settle (P6 := fun r a_s2 a_s4 a_s6 => (r, a_s2, a_s4, a_s6) = (r6, s2n, s4n, s6n)) (P7 := fun r u => (r, u) = (r7, mn)) k6 hRP hRB kM kD (v6 (fun x => x = (r6, s2n, s4n, s6n)) rfl) (v7 (fun x => x = (r7, mn)) rfl)
  have f7 : ra = r7 ∧ ym = mn := by simpa only [Prod.mk.injEq] using e7
  have f6 : ra = r6 ∧ y_s2 = s2n ∧ y_s4 = s4n ∧ y_s6 = s6n := by simpa only [Prod.mk.injEq] using e6
  rw [f7.2, f6.2.1, f6.2.2.2] at ar
  have jB := ar.1
  have jP := ar.2.1
  have jS : RSh z7 mn := RSh_k hRS ar.2.2.1 ar.2.2.2
  exact ⟨r6, r7, N, s2n, s4n, s6n, mn, fun Q h => v6 (fun o => Q o.1 o.2.1 o.2.2.1 o.2.2.2) h, fun Q h => v7 (fun o => Q o.1 o.2) h, ⟨⟨k1, g0, ⟨R3, W3, k3⟩, g1, k5, g2, k7⟩, ⟨R8, W8, D8, m7, d7⟩, hxn, jB, jP, jS⟩⟩
set_option maxHeartbeats 4000000 in
theorem pm_lose {s1 : Tp} {s2 s3 : Bd} {s4 : Mo} {s5 : Pg} {s6 : Pa} {z7 : Nat → Option Bd} {m : Md} {N : Int} {x1 : Int32} {x2 : Int32} (hJ : JJ N s1 s2 s3 s4 s5 s6 z7 m) : ∃ (r6 r7 : Int32) (M : Int) (s2n : Bd) (s6n : Pa) (mn : Md), (∀ Q : Int32 → Bd → Pa → Prop, Q r6 s2n s6n → wp_X6_lose Q s2 s6 x1 x2) ∧ (∀ Q : Int32 → Md → Prop, Q r7 mn → wp_X7_lose Q m x1 x2) ∧ JJ M s1 s2n s3 s4 s5 s6n z7 mn := by
  have hJ0 := hJ
  obtain ⟨⟨k1, ⟨R, W, k2⟩, ⟨R3, W3, k3⟩, k4, k5, k6, k7⟩, ⟨R7, W7, D7, kM, kD⟩, hx, hRB, hRP, hRS⟩ := hJ
  obtain ⟨o, a6, v6, _⟩ := dt_X6_lose s2 s6 x1 x2 (fun o => bx o.2.1 ∧ pa o.2.2) (wq_X6_lose k2 k6 (fun r ua ub b0 b1 => ⟨⟨R, W, b0⟩, b1⟩))
  obtain ⟨r6, s2n, s6n⟩ := o
  obtain ⟨g0, g1⟩ := a6
  obtain ⟨o7, a7, v7, _⟩ := dt_X7_lose m x1 x2 (fun o => ∃ M R W D9, mb M R W D9 o.2 ∧ (R ≤ 0 ∨ 0 < D9) ∧ M = N) (wq_X7_lose kM kD (fun r u b0 => ⟨N, R7, W7, D7, b0, kD, rfl⟩))
  obtain ⟨o8, o8e, ht⟩ := fx_X7_lose m x1 x2 (fun x => x = o7) (v7 (fun x => x = o7) rfl)
  rw [o8e] at ht
  obtain ⟨r7, mn⟩ := o7
  obtain ⟨M7, R8, W8, D8, m7, d7, l7⟩ := a7
  have ht : mn.2.2.2 2 = m.2.2.2 2 := ht
  have m70 := m7
  have eM : M7 = N := by omega
  rw [eM] at m7
  have hxn : RX s1 mn := RX_k hx rfl (Int32.toInt_inj.mp (k1.1.trans m7.1.symm)) m7.1 m7.2.2.1 ht
  obtain ⟨ra, y_s2, y_s6, ym, e6, e7, ar⟩ := sm_lose (P6 := fun r a_s2 a_s6 => (r, a_s2, a_s6) = (r6, s2n, s6n)) (P7 := fun r u => (r, u) = (r7, mn)) k6 hRP hRB kM kD (v6 (fun x => x = (r6, s2n, s6n)) rfl) (v7 (fun x => x = (r7, mn)) rfl)
  have f7 : ra = r7 ∧ ym = mn := by simpa only [Prod.mk.injEq] using e7
  have f6 : ra = r6 ∧ y_s2 = s2n ∧ y_s6 = s6n := by simpa only [Prod.mk.injEq] using e6
  rw [f7.2, f6.2.1, f6.2.2] at ar
  have jB := ar.1
  have jP := ar.2.1
  have jS : RSh z7 mn := RSh_k hRS ar.2.2.1 ar.2.2.2
  exact ⟨r6, r7, N, s2n, s6n, mn, fun Q h => v6 (fun o => Q o.1 o.2.1 o.2.2) h, fun Q h => v7 (fun o => Q o.1 o.2) h, ⟨⟨k1, g0, ⟨R3, W3, k3⟩, k4, k5, g1, k7⟩, ⟨R8, W8, D8, m7, d7⟩, hxn, jB, jP, jS⟩⟩
set_option maxHeartbeats 4000000 in
theorem pm_wear {s1 : Tp} {s2 s3 : Bd} {s4 : Mo} {s5 : Pg} {s6 : Pa} {z7 : Nat → Option Bd} {m : Md} {N : Int} {x1 : Int32} {x2 : Int32} (hJ : JJ N s1 s2 s3 s4 s5 s6 z7 m) : ∃ (r6 r7 : Int32) (M : Int) (s2n : Bd) (s6n : Pa) (mn : Md), (∀ Q : Int32 → Bd → Pa → Prop, Q r6 s2n s6n → wp_X6_wear Q s2 s6 x1 x2) ∧ (∀ Q : Int32 → Md → Prop, Q r7 mn → wp_X7_wear Q m x1 x2) ∧ JJ M s1 s2n s3 s4 s5 s6n z7 mn := by
  have hJ0 := hJ
  obtain ⟨⟨k1, ⟨R, W, k2⟩, ⟨R3, W3, k3⟩, k4, k5, k6, k7⟩, ⟨R7, W7, D7, kM, kD⟩, hx, hRB, hRP, hRS⟩ := hJ
  obtain ⟨o, a6, v6, _⟩ := dt_X6_wear s2 s6 x1 x2 (fun o => bx o.2.1 ∧ pa o.2.2) (wq_X6_wear k2 k6 (fun r ua ub b0 b1 => ⟨⟨R, W, b0⟩, b1⟩))
  obtain ⟨r6, s2n, s6n⟩ := o
  obtain ⟨g0, g1⟩ := a6
  obtain ⟨o7, a7, v7, _⟩ := dt_X7_wear m x1 x2 (fun o => ∃ M R W D9, mb M R W D9 o.2 ∧ (R ≤ 0 ∨ 0 < D9) ∧ M = N) (wq_X7_wear kM kD (fun r u b0 => ⟨N, R7, W7, D7, b0, kD, rfl⟩))
  obtain ⟨o8, o8e, ht⟩ := fx_X7_wear m x1 x2 (fun x => x = o7) (v7 (fun x => x = o7) rfl)
  rw [o8e] at ht
  obtain ⟨r7, mn⟩ := o7
  obtain ⟨M7, R8, W8, D8, m7, d7, l7⟩ := a7
  have ht : mn.2.2.2 2 = m.2.2.2 2 := ht
  have m70 := m7
  have eM : M7 = N := by omega
  rw [eM] at m7
  have hxn : RX s1 mn := RX_k hx rfl (Int32.toInt_inj.mp (k1.1.trans m7.1.symm)) m7.1 m7.2.2.1 ht
  obtain ⟨ra, rb, y_s2, y_s6, ym, e6, e7, ar, cn⟩ := sm_wear (P6 := fun r a_s2 a_s6 => (r, a_s2, a_s6) = (r6, s2n, s6n)) (P7 := fun r u => (r, u) = (r7, mn)) k6 hRP hRB kM kD (v6 (fun x => x = (r6, s2n, s6n)) rfl) (v7 (fun x => x = (r7, mn)) rfl)
  have f7 : rb = r7 ∧ ym = mn := by simpa only [Prod.mk.injEq] using e7
  have f6 : ra = r6 ∧ y_s2 = s2n ∧ y_s6 = s6n := by simpa only [Prod.mk.injEq] using e6
  rw [f7.2, f6.2.1, f6.2.2] at ar
  have jB := ar.1
  have jP := ar.2.1
  have jS : RSh z7 mn := RSh_k hRS ar.2.2.1 ar.2.2.2
  exact ⟨r6, r7, N, s2n, s6n, mn, fun Q h => v6 (fun o => Q o.1 o.2.1 o.2.2) h, fun Q h => v7 (fun o => Q o.1 o.2) h, ⟨⟨k1, g0, ⟨R3, W3, k3⟩, k4, k5, g1, k7⟩, ⟨R8, W8, D8, m7, d7⟩, hxn, jB, jP, jS⟩⟩
set_option maxHeartbeats 4000000 in
theorem pm_mend {s1 : Tp} {s2 s3 : Bd} {s4 : Mo} {s5 : Pg} {s6 : Pa} {z7 : Nat → Option Bd} {m : Md} {N : Int} {x1 : Int32} {x2 : Int32} (hJ : JJ N s1 s2 s3 s4 s5 s6 z7 m) : ∃ (r6 r7 : Int32) (M : Int) (s2n : Bd) (s6n : Pa) (mn : Md), (∀ Q : Int32 → Bd → Pa → Prop, Q r6 s2n s6n → wp_X6_mend Q s2 s6 x1 x2) ∧ (∀ Q : Int32 → Md → Prop, Q r7 mn → wp_X7_mend Q m x1 x2) ∧ JJ M s1 s2n s3 s4 s5 s6n z7 mn := by
  have hJ0 := hJ
  obtain ⟨⟨k1, ⟨R, W, k2⟩, ⟨R3, W3, k3⟩, k4, k5, k6, k7⟩, ⟨R7, W7, D7, kM, kD⟩, hx, hRB, hRP, hRS⟩ := hJ
  obtain ⟨o, a6, v6, _⟩ := dt_X6_mend s2 s6 x1 x2 (fun o => bx o.2.1 ∧ pa o.2.2) (wq_X6_mend k2 k6 (fun r ua ub b0 b1 => ⟨⟨R, W, b0⟩, b1⟩))
  obtain ⟨r6, s2n, s6n⟩ := o
  obtain ⟨g0, g1⟩ := a6
  obtain ⟨o7, a7, v7, _⟩ := dt_X7_mend m x1 x2 (fun o => ∃ M R W D9, mb M R W D9 o.2 ∧ (R ≤ 0 ∨ 0 < D9) ∧ M = N) (wq_X7_mend kM kD (fun r u b0 => ⟨N, R7, W7, D7, b0, kD, rfl⟩))
  obtain ⟨o8, o8e, ht⟩ := fx_X7_mend m x1 x2 (fun x => x = o7) (v7 (fun x => x = o7) rfl)
  rw [o8e] at ht
  obtain ⟨r7, mn⟩ := o7
  obtain ⟨M7, R8, W8, D8, m7, d7, l7⟩ := a7
  have ht : mn.2.2.2 2 = m.2.2.2 2 := ht
  have m70 := m7
  have eM : M7 = N := by omega
  rw [eM] at m7
  have hxn : RX s1 mn := RX_k hx rfl (Int32.toInt_inj.mp (k1.1.trans m7.1.symm)) m7.1 m7.2.2.1 ht
  obtain ⟨ra, rb, y_s2, y_s6, ym, e6, e7, ar⟩ := sm_mend (P6 := fun r a_s2 a_s6 => (r, a_s2, a_s6) = (r6, s2n, s6n)) (P7 := fun r u => (r, u) = (r7, mn)) k6 hRP hRB kM kD (v6 (fun x => x = (r6, s2n, s6n)) rfl) (v7 (fun x => x = (r7, mn)) rfl)
  have f7 : rb = r7 ∧ ym = mn := by simpa only [Prod.mk.injEq] using e7
  have f6 : ra = r6 ∧ y_s2 = s2n ∧ y_s6 = s6n := by simpa only [Prod.mk.injEq] using e6
  rw [f7.2, f6.2.1, f6.2.2] at ar
  have jB := ar.1
  have jP := ar.2.1
  have jS : RSh z7 mn := RSh_k hRS ar.2.2.1 ar.2.2.2
  exact ⟨r6, r7, N, s2n, s6n, mn, fun Q h => v6 (fun o => Q o.1 o.2.1 o.2.2) h, fun Q h => v7 (fun o => Q o.1 o.2) h, ⟨⟨k1, g0, ⟨R3, W3, k3⟩, k4, k5, g1, k7⟩, ⟨R8, W8, D8, m7, d7⟩, hxn, jB, jP, jS⟩⟩
set_option maxHeartbeats 4000000 in
theorem pm_limit {s1 : Tp} {s2 s3 : Bd} {s4 : Mo} {s5 : Pg} {s6 : Pa} {z7 : Nat → Option Bd} {m : Md} {N : Int} {x1 : Int32} (hJ : JJ N s1 s2 s3 s4 s5 s6 z7 m) : ∃ (r6 r7 : Int32) (M : Int) (s2n : Bd) (s6n : Pa) (mn : Md), (∀ Q : Int32 → Bd → Pa → Prop, Q r6 s2n s6n → wp_X6_limit Q s2 s6 x1) ∧ (∀ Q : Int32 → Md → Prop, Q r7 mn → wp_X7_limit Q m x1) ∧ JJ M s1 s2n s3 s4 s5 s6n z7 mn := by
  have hJ0 := hJ
  obtain ⟨⟨k1, ⟨R, W, k2⟩, ⟨R3, W3, k3⟩, k4, k5, k6, k7⟩, ⟨R7, W7, D7, kM, kD⟩, hx, hRB, hRP, hRS⟩ := hJ
  obtain ⟨o, a6, v6, _⟩ := dt_X6_limit s2 s6 x1 (fun o => bx o.2.1 ∧ pa o.2.2) (wq_X6_limit k2 k6 (fun r ua ub b0 b1 => ⟨⟨R, W, b0⟩, b1⟩))
  obtain ⟨r6, s2n, s6n⟩ := o
  obtain ⟨g0, g1⟩ := a6
  obtain ⟨o7, a7, v7, _⟩ := dt_X7_limit m x1 (fun o => ∃ M R W D9, mb M R W D9 o.2 ∧ (R ≤ 0 ∨ 0 < D9) ∧ M = N) (wq_X7_limit kM kD (fun r u b0 => ⟨N, R7, W7, D7, b0, kD, rfl⟩))
  obtain ⟨o8, o8e, ht⟩ := fx_X7_limit m x1 (fun x => x = o7) (v7 (fun x => x = o7) rfl)
  rw [o8e] at ht
  obtain ⟨r7, mn⟩ := o7
  obtain ⟨M7, R8, W8, D8, m7, d7, l7⟩ := a7
  have ht : mn.2.2.2 2 = m.2.2.2 2 := ht
  have m70 := m7
  have eM : M7 = N := by omega
  rw [eM] at m7
  have hxn : RX s1 mn := RX_k hx rfl (Int32.toInt_inj.mp (k1.1.trans m7.1.symm)) m7.1 m7.2.2.1 ht
  obtain ⟨ra, y_s2, y_s6, ym, e6, e7, ar⟩ := sm_limit (P6 := fun r a_s2 a_s6 => (r, a_s2, a_s6) = (r6, s2n, s6n)) (P7 := fun r u => (r, u) = (r7, mn)) k6 hRP hRB kM kD (v6 (fun x => x = (r6, s2n, s6n)) rfl) (v7 (fun x => x = (r7, mn)) rfl)
  have f7 : ra = r7 ∧ ym = mn := by simpa only [Prod.mk.injEq] using e7
  have f6 : ra = r6 ∧ y_s2 = s2n ∧ y_s6 = s6n := by simpa only [Prod.mk.injEq] using e6
  rw [f7.2, f6.2.1, f6.2.2] at ar
  have jB := ar.1
  have jP := ar.2.1
  have jS : RSh z7 mn := RSh_k hRS ar.2.2.1 ar.2.2.2
  exact ⟨r6, r7, N, s2n, s6n, mn, fun Q h => v6 (fun o => Q o.1 o.2.1 o.2.2) h, fun Q h => v7 (fun o => Q o.1 o.2) h, ⟨⟨k1, g0, ⟨R3, W3, k3⟩, k4, k5, g1, k7⟩, ⟨R8, W8, D8, m7, d7⟩, hxn, jB, jP, jS⟩⟩
set_option maxHeartbeats 4000000 in
theorem pm_exchange {s1 : Tp} {s2 s3 : Bd} {s4 : Mo} {s5 : Pg} {s6 : Pa} {z7 : Nat → Option Bd} {m : Md} {N : Int} {x1 : Int32} {x2 : Int32} {x3 : Int32} (hJ : JJ N s1 s2 s3 s4 s5 s6 z7 m) : ∃ (r6 r7 : Int32) (M : Int) (s2n : Bd) (s6n : Pa) (mn : Md), (∀ Q : Int32 → Bd → Pa → Prop, Q r6 s2n s6n → wp_X6_exchange Q s2 s6 x1 x2 x3) ∧ (∀ Q : Int32 → Md → Prop, Q r7 mn → wp_X7_exchange Q m x1 x2 x3) ∧ JJ M s1 s2n s3 s4 s5 s6n z7 mn := by
  have hJ0 := hJ
  obtain ⟨⟨k1, ⟨R, W, k2⟩, ⟨R3, W3, k3⟩, k4, k5, k6, k7⟩, ⟨R7, W7, D7, kM, kD⟩, hx, hRB, hRP, hRS⟩ := hJ
  obtain ⟨o, a6, v6, _⟩ := dt_X6_exchange s2 s6 x1 x2 x3 (fun o => bx o.2.1 ∧ pa o.2.2) (wq_X6_exchange k2 k6 (fun r ua ub b0 b1 => ⟨⟨R, W, b0⟩, b1⟩))
  obtain ⟨r6, s2n, s6n⟩ := o
  obtain ⟨g0, g1⟩ := a6
  obtain ⟨o7, a7, v7, _⟩ := dt_X7_exchange m x1 x2 x3 (fun o => ∃ M R W D9, mb M R W D9 o.2 ∧ (R ≤ 0 ∨ 0 < D9) ∧ M = N) (wq_X7_exchange kM kD (fun r u b0 => ⟨N, R7, W7, D7, b0, kD, rfl⟩))
  obtain ⟨o8, o8e, ht⟩ := fx_X7_exchange m x1 x2 x3 (fun x => x = o7) (v7 (fun x => x = o7) rfl)
  rw [o8e] at ht
  obtain ⟨r7, mn⟩ := o7
  obtain ⟨M7, R8, W8, D8, m7, d7, l7⟩ := a7
  have ht : mn.2.2.2 2 = m.2.2.2 2 := ht
  have m70 := m7
  have eM : M7 = N := by omega
  rw [eM] at m7
  have hxn : RX s1 mn := RX_k hx rfl (Int32.toInt_inj.mp (k1.1.trans m7.1.symm)) m7.1 m7.2.2.1 ht
  obtain ⟨ra, y_s2, y_s6, ym, e6, e7, ar⟩ := sm_exchange (P6 := fun r a_s2 a_s6 => (r, a_s2, a_s6) = (r6, s2n, s6n)) (P7 := fun r u => (r, u) = (r7, mn)) k6 hRP hRB kM kD (v6 (fun x => x = (r6, s2n, s6n)) rfl) (v7 (fun x => x = (r7, mn)) rfl)
  have f7 : ra = r7 ∧ ym = mn := by simpa only [Prod.mk.injEq] using e7
  have f6 : ra = r6 ∧ y_s2 = s2n ∧ y_s6 = s6n := by simpa only [Prod.mk.injEq] using e6
  rw [f7.2, f6.2.1, f6.2.2] at ar
  have jB := ar.1
  have jP := ar.2.1
  have jS : RSh z7 mn := RSh_k hRS ar.2.2.1 ar.2.2.2
  exact ⟨r6, r7, N, s2n, s6n, mn, fun Q h => v6 (fun o => Q o.1 o.2.1 o.2.2) h, fun Q h => v7 (fun o => Q o.1 o.2) h, ⟨⟨k1, g0, ⟨R3, W3, k3⟩, k4, k5, g1, k7⟩, ⟨R8, W8, D8, m7, d7⟩, hxn, jB, jP, jS⟩⟩
set_option maxHeartbeats 4000000 in
theorem pm_run {s1 : Tp} {s2 s3 : Bd} {s4 : Mo} {s5 : Pg} {s6 : Pa} {z7 : Nat → Option Bd} {m : Md} {N : Int}  (hJ : JJ N s1 s2 s3 s4 s5 s6 z7 m) : ∃ (r6 r7 : Int32) (M : Int) (s1n : Tp) (s2n : Bd) (s4n : Mo) (s5n : Pg) (s6n : Pa) (mn : Md), (∀ Q : Int32 → Tp → Bd → Mo → Pg → Pa → Prop, Q r6 s1n s2n s4n s5n s6n → wp_X6_run Q s1 s2 s4 s5 s6) ∧ (∀ Q : Int32 → Md → Prop, Q r7 mn → wp_X7_run Q m ) ∧ JJ M s1n s2n s3 s4n s5n s6n z7 mn := by
  have hJ0 := hJ
  obtain ⟨⟨k1, ⟨R, W, k2⟩, ⟨R3, W3, k3⟩, k4, k5, k6, k7⟩, ⟨R7, W7, D7, kM, kD⟩, hx, hRB, hRP, hRS⟩ := hJ
  obtain ⟨o, a6, v6, _⟩ := dt_X6_run s1 s2 s4 s5 s6 (fun o => (∃ M, tz M o.2.1 ∧ M = 0) ∧ bx o.2.2.1 ∧ mo o.2.2.2.1 ∧ pz o.2.2.2.2.1 ∧ pa o.2.2.2.2.2) (wq_X6_run k1 k2 k4 k5 k6 (fun r ua ub uc ud ue b0 b1 b2 b3 b4 => ⟨⟨0, b0, rfl⟩, ⟨R, W, b1⟩, b2, b3, b4⟩))
  obtain ⟨r6, s1n, s2n, s4n, s5n, s6n⟩ := o
  obtain ⟨⟨M6, t6, l6⟩, g1, g2, g3, g4⟩ := a6
  obtain ⟨o7, a7, v7, _⟩ := dt_X7_run m  (fun o => ∃ M R W D9, mb M R W D9 o.2 ∧ (R ≤ 0 ∨ 0 < D9) ∧ M = 0) (wq_X7_run kM kD (fun r u b0 => ⟨0, R7, W7, D7, b0, kD, rfl⟩))
  obtain ⟨o8, o8e, ht⟩ := fx_X7_run m  (fun x => x = o7) (v7 (fun x => x = o7) rfl)
  rw [o8e] at ht
  obtain ⟨r7, mn⟩ := o7
  obtain ⟨M7, R8, W8, D8, m7, d7, l7⟩ := a7
  have ht : mn.2.2.2 2 = m.2.2.2 2 := ht
  obtain ⟨o9, o9e, hb⟩ := ft_X6_run s1 s2 s4 s5 s6 (fun x => x = (r6, s1n, s2n, s4n, s5n, s6n)) (v6 (fun x => x = (r6, s1n, s2n, s4n, s5n, s6n)) rfl)
  rw [o9e] at hb
  have hb : s1n.2 = s1.2 := hb
  have m70 := m7
  have eM : M7 = M6 := by omega
  rw [eM] at m7
  have hxn : RX s1n mn := RX_k hx hb (Int32.toInt_inj.mp (t6.1.trans m7.1.symm)) m7.1 m7.2.2.1 ht
  obtain ⟨ra, y_s1, y_s2, y_s4, y_s5, y_s6, ym, e6, e7, ar⟩ := sm_run (P6 := fun r a_s1 a_s2 a_s4 a_s5 a_s6 => (r, a_s1, a_s2, a_s4, a_s5, a_s6) = (r6, s1n, s2n, s4n, s5n, s6n)) (P7 := fun r u => (r, u) = (r7, mn)) k1 k2 k5 hx k6 hRP hRB kM kD (v6 (fun x => x = (r6, s1n, s2n, s4n, s5n, s6n)) rfl) (v7 (fun x => x = (r7, mn)) rfl)
  have f7 : ra = r7 ∧ ym = mn := by simpa only [Prod.mk.injEq] using e7
  have f6 : ra = r6 ∧ y_s1 = s1n ∧ y_s2 = s2n ∧ y_s4 = s4n ∧ y_s5 = s5n ∧ y_s6 = s6n := by simpa only [Prod.mk.injEq] using e6
  rw [f7.2, f6.2.2.1, f6.2.2.2.2.2] at ar
  have jB := ar.1
  have jP := ar.2.1
  have jS : RSh z7 mn := RSh_k hRS ar.2.2.1 ar.2.2.2
  exact ⟨r6, r7, M6, s1n, s2n, s4n, s5n, s6n, mn, fun Q h => v6 (fun o => Q o.1 o.2.1 o.2.2.1 o.2.2.2.1 o.2.2.2.2.1 o.2.2.2.2.2) h, fun Q h => v7 (fun o => Q o.1 o.2) h, ⟨⟨t6, g1, ⟨R3, W3, k3⟩, g2, g3, g4, k7⟩, ⟨R8, W8, D8, m7, d7⟩, hxn, jB, jP, jS⟩⟩
set_option maxHeartbeats 4000000 in
theorem pm_undo {s1 : Tp} {s2 s3 : Bd} {s4 : Mo} {s5 : Pg} {s6 : Pa} {z7 : Nat → Option Bd} {m : Md} {N : Int}  (hJ : JJ N s1 s2 s3 s4 s5 s6 z7 m) : ∃ (r6 r7 : Int32) (M : Int) (s2n : Bd) (s6n : Pa) (mn : Md), (∀ Q : Int32 → Bd → Pa → Prop, Q r6 s2n s6n → wp_X6_undo Q s2 s6) ∧ (∀ Q : Int32 → Md → Prop, Q r7 mn → wp_X7_undo Q m ) ∧ JJ M s1 s2n s3 s4 s5 s6n z7 mn := by
  have hJ0 := hJ
  obtain ⟨⟨k1, ⟨R, W, k2⟩, ⟨R3, W3, k3⟩, k4, k5, k6, k7⟩, ⟨R7, W7, D7, kM, kD⟩, hx, hRB, hRP, hRS⟩ := hJ
  obtain ⟨o, a6, v6, _⟩ := dt_X6_undo s2 s6 (fun o => bx o.2.1 ∧ pa o.2.2) (wq_X6_undo k2 k6 (fun r ua ub R4 W4 b0 b1 => ⟨⟨R4, W4, b0⟩, b1⟩))
  obtain ⟨r6, s2n, s6n⟩ := o
  obtain ⟨g0, g1⟩ := a6
  obtain ⟨o7, a7, v7, _⟩ := dt_X7_undo m  (fun o => ∃ M R W D9, mb M R W D9 o.2 ∧ (R ≤ 0 ∨ 0 < D9) ∧ M = N) (wq_X7_undo kM kD (fun r u R4 W4 D4 b0 b1 => ⟨N, R4, W4, D4, b0, b1, rfl⟩))
  obtain ⟨o8, o8e, ht⟩ := fx_X7_undo m  (fun x => x = o7) (v7 (fun x => x = o7) rfl)
  rw [o8e] at ht
  obtain ⟨r7, mn⟩ := o7
  obtain ⟨M7, R8, W8, D8, m7, d7, l7⟩ := a7
  have ht : mn.2.2.2 2 = m.2.2.2 2 := ht
  have m70 := m7
  have eM : M7 = N := by omega
  rw [eM] at m7
  have hxn : RX s1 mn := RX_k hx rfl (Int32.toInt_inj.mp (k1.1.trans m7.1.symm)) m7.1 m7.2.2.1 ht
  obtain ⟨ra, y_s2, y_s6, ym, e6, e7, aB, aP, aK, aS⟩ := sm_undo (P6 := fun r a_s2 a_s6 => (r, a_s2, a_s6) = (r6, s2n, s6n)) (P7 := fun r u => (r, u) = (r7, mn)) k6 hRP hRB kM (v6 (fun x => x = (r6, s2n, s6n)) rfl) (v7 (fun x => x = (r7, mn)) rfl)
  have f7 : ra = r7 ∧ ym = mn := by simpa only [Prod.mk.injEq] using e7
  have f6 : ra = r6 ∧ y_s2 = s2n ∧ y_s6 = s6n := by simpa only [Prod.mk.injEq] using e6
  try rw [f7.2] at aB
  try rw [f6.2.1] at aB
  try rw [f6.2.2] at aB
  try rw [f7.2] at aP
  try rw [f6.2.1] at aP
  try rw [f6.2.2] at aP
  try rw [f7.2] at aK
  try rw [f6.2.1] at aK
  try rw [f6.2.2] at aK
  try rw [f7.2] at aS
  try rw [f6.2.1] at aS
  try rw [f6.2.2] at aS
  have jB := aB
  have jP := aP
  have jS := RSh_k hRS (by rw [aK]) aS
  exact ⟨r6, r7, N, s2n, s6n, mn, fun Q h => v6 (fun o => Q o.1 o.2.1 o.2.2) h, fun Q h => v7 (fun o => Q o.1 o.2) h, ⟨⟨k1, g0, ⟨R3, W3, k3⟩, k4, k5, g1, k7⟩, ⟨R8, W8, D8, m7, d7⟩, hxn, jB, jP, jS⟩⟩
set_option maxHeartbeats 4000000 in
theorem pm_keep {s1 : Tp} {s2 s3 : Bd} {s4 : Mo} {s5 : Pg} {s6 : Pa} {z7 : Nat → Option Bd} {m : Md} {N : Int} {x1 : Int32} (hJ : JJ N s1 s2 s3 s4 s5 s6 z7 m) : ∃ (r6 r7 : Int32) (M : Int) (z7n : Nat → Option Bd) (mn : Md), (∀ Q : Int32 → (Nat → Option Bd) → Prop, Q r6 z7n → wp_X6_keep Q s2 z7 x1) ∧ (∀ Q : Int32 → Md → Prop, Q r7 mn → wp_X7_keep Q m x1) ∧ JJ M s1 s2 s3 s4 s5 s6 z7n mn := by
  have hJ0 := hJ
  obtain ⟨⟨k1, ⟨R, W, k2⟩, ⟨R3, W3, k3⟩, k4, k5, k6, k7⟩, ⟨R7, W7, D7, kM, kD⟩, hx, hRB, hRP, hRS⟩ := hJ
  obtain ⟨o, a6, v6, _⟩ := dt_X6_keep s2 z7 x1 (fun o => (∀ k, ob (o.2 k))) (wq_X6_keep k2 k7 (fun r u b0 => b0))
  obtain ⟨r6, z7n⟩ := o
  have g0 := a6
  obtain ⟨o7, a7, v7, _⟩ := dt_X7_keep m x1 (fun o => ∃ M R W D9, mb M R W D9 o.2 ∧ (R ≤ 0 ∨ 0 < D9) ∧ M = N) (wq_X7_keep kM kD (fun r u b0 => ⟨N, R7, W7, D7, b0, kD, rfl⟩))
  obtain ⟨o8, o8e, ht⟩ := fx_X7_keep m x1 (fun x => x = o7) (v7 (fun x => x = o7) rfl)
  rw [o8e] at ht
  obtain ⟨r7, mn⟩ := o7
  obtain ⟨M7, R8, W8, D8, m7, d7, l7⟩ := a7
  have ht : mn.2.2.2 2 = m.2.2.2 2 := ht
  have m70 := m7
  have eM : M7 = N := by omega
  rw [eM] at m7
  have hxn : RX s1 mn := RX_k hx rfl (Int32.toInt_inj.mp (k1.1.trans m7.1.symm)) m7.1 m7.2.2.1 ht
  obtain ⟨ra, y_z7, ym, e6, e7, aS, aN, aB, aP⟩ := sm_keep (P6 := fun r a_z7 => (r, a_z7) = (r6, z7n)) (P7 := fun r u => (r, u) = (r7, mn)) hRS hRB kM (v6 (fun x => x = (r6, z7n)) rfl) (v7 (fun x => x = (r7, mn)) rfl)
  have f7 : ra = r7 ∧ ym = mn := by simpa only [Prod.mk.injEq] using e7
  have f6 : ra = r6 ∧ y_z7 = z7n := by simpa only [Prod.mk.injEq] using e6
  try rw [f7.2] at aS
  try rw [f6.2] at aS
  try rw [f7.2] at aN
  try rw [f6.2] at aN
  try rw [f7.2] at aB
  try rw [f6.2] at aB
  try rw [f7.2] at aP
  try rw [f6.2] at aP
  have jB : RB s2 (mn.2.2.1 0) := by rw [aB]; exact hRB
  have jP := RP_k hRP aN aP
  have jS := aS
  exact ⟨r6, r7, N, z7n, mn, fun Q h => v6 (fun o => Q o.1 o.2) h, fun Q h => v7 (fun o => Q o.1 o.2) h, ⟨⟨k1, ⟨R, W, k2⟩, ⟨R3, W3, k3⟩, k4, k5, k6, g0⟩, ⟨R8, W8, D8, m7, d7⟩, hxn, jB, jP, jS⟩⟩
set_option maxHeartbeats 4000000 in
theorem pm_back {s1 : Tp} {s2 s3 : Bd} {s4 : Mo} {s5 : Pg} {s6 : Pa} {z7 : Nat → Option Bd} {m : Md} {N : Int} {x1 : Int32} (hJ : JJ N s1 s2 s3 s4 s5 s6 z7 m) : ∃ (r6 r7 : Int32) (M : Int) (s2n : Bd) (s6n : Pa) (z7n : Nat → Option Bd) (mn : Md), (∀ Q : Int32 → Bd → Pa → (Nat → Option Bd) → Prop, Q r6 s2n s6n z7n → wp_X6_back Q s2 s6 z7 x1) ∧ (∀ Q : Int32 → Md → Prop, Q r7 mn → wp_X7_back Q m x1) ∧ s6n.2 = s6.2 ∧ JJ M s1 s2n s3 s4 s5 s6n z7n mn := by
  have hJ0 := hJ
  obtain ⟨⟨k1, ⟨R, W, k2⟩, ⟨R3, W3, k3⟩, k4, k5, k6, k7⟩, ⟨R7, W7, D7, kM, kD⟩, hx, hRB, hRP, hRS⟩ := hJ
  obtain ⟨o, a6, v6, _⟩ := dt_X6_back s2 s6 z7 x1 (fun o => bx o.2.1 ∧ (pa o.2.2.1 ∧ o.2.2.1.2 = s6.2) ∧ (∀ k, ob (o.2.2.2 k))) (wq_X6_back k2 k6 k7 (fun r ua ub uc R4 W4 b0 b1 b2 b3 => ⟨⟨R4, W4, b0⟩, ⟨b1, b3⟩, b2⟩))
  obtain ⟨r6, s2n, s6n, z7n⟩ := o
  obtain ⟨g0, ⟨pa6, pe6⟩, g2⟩ := a6
  obtain ⟨o7, a7, v7, _⟩ := dt_X7_back m x1 (fun o => ∃ M R W D9, mb M R W D9 o.2 ∧ (R ≤ 0 ∨ 0 < D9) ∧ M = N) (wq_X7_back kM kD (fun r u R4 W4 D4 b0 b1 => ⟨N, R4, W4, D4, b0, b1, rfl⟩))
  obtain ⟨o8, o8e, ht⟩ := fx_X7_back m x1 (fun x => x = o7) (v7 (fun x => x = o7) rfl)
  rw [o8e] at ht
  obtain ⟨r7, mn⟩ := o7
  obtain ⟨M7, R8, W8, D8, m7, d7, l7⟩ := a7
  have ht : mn.2.2.2 2 = m.2.2.2 2 := ht
  have m70 := m7
  have eM : M7 = N := by omega
  rw [eM] at m7
  have hxn : RX s1 mn := RX_k hx rfl (Int32.toInt_inj.mp (k1.1.trans m7.1.symm)) m7.1 m7.2.2.1 ht
  obtain ⟨ra, y_s2, y_s6, y_z7, ym, e6, e7, aB, aP, aS⟩ := sm_back (P6 := fun r a_s2 a_s6 a_z7 => (r, a_s2, a_s6, a_z7) = (r6, s2n, s6n, z7n)) (P7 := fun r u => (r, u) = (r7, mn)) hRP hRS hRB kM (v6 (fun x => x = (r6, s2n, s6n, z7n)) rfl) (v7 (fun x => x = (r7, mn)) rfl)
  have f7 : ra = r7 ∧ ym = mn := by simpa only [Prod.mk.injEq] using e7
  have f6 : ra = r6 ∧ y_s2 = s2n ∧ y_s6 = s6n ∧ y_z7 = z7n := by simpa only [Prod.mk.injEq] using e6
  try rw [f7.2] at aB
  try rw [f6.2.1] at aB
  try rw [f6.2.2.1] at aB
  try rw [f6.2.2.2] at aB
  try rw [f7.2] at aP
  try rw [f6.2.1] at aP
  try rw [f6.2.2.1] at aP
  try rw [f6.2.2.2] at aP
  try rw [f7.2] at aS
  try rw [f6.2.1] at aS
  try rw [f6.2.2.1] at aS
  try rw [f6.2.2.2] at aS
  have jB := aB
  have jP := aP
  have jS := aS
  exact ⟨r6, r7, N, s2n, s6n, z7n, mn, fun Q h => v6 (fun o => Q o.1 o.2.1 o.2.2.1 o.2.2.2) h, fun Q h => v7 (fun o => Q o.1 o.2) h, pe6, ⟨⟨k1, g0, ⟨R3, W3, k3⟩, k4, k5, pa6, g2⟩, ⟨R8, W8, D8, m7, d7⟩, hxn, jB, jP, jS⟩⟩
set_option maxHeartbeats 4000000 in
theorem pm_cell {s1 : Tp} {s2 s3 : Bd} {s4 : Mo} {s5 : Pg} {s6 : Pa} {z7 : Nat → Option Bd} {m : Md} {N : Int} {x1 : Int32} {x2 : Int32} (hJ : JJ N s1 s2 s3 s4 s5 s6 z7 m) : ∃ (r6 r7 : Int32) (M : Int) (mn : Md), (∀ Q : Int32 → Prop, Q r6  → wp_X6_cell Q s2 x1 x2) ∧ (∀ Q : Int32 → Prop, Q r7 → wp_X7_cell Q m x1 x2) ∧ mn = m ∧ JJ M s1 s2 s3 s4 s5 s6 z7 mn := by
  have hJ0 := hJ
  obtain ⟨⟨k1, ⟨R, W, k2⟩, ⟨R3, W3, k3⟩, k4, k5, k6, k7⟩, ⟨R7, W7, D7, kM, kD⟩, hx, hRB, hRP, hRS⟩ := hJ
  obtain ⟨r6, _, v6, _⟩ := dt_X6_cell s2 x1 x2 (fun _ => True) (wq_X6_cell k2 (fun _ => trivial))
  obtain ⟨r7, _, v7, _⟩ := dt_X7_cell m x1 x2 (fun _ => True) (wq_X7_cell kM kD (fun _ => trivial))
  exact ⟨r6, r7, N, m, fun Q h => v6 (fun o => Q o) h, fun Q h => v7 (fun o => Q o) h, rfl, ⟨⟨k1, ⟨R, W, k2⟩, ⟨R3, W3, k3⟩, k4, k5, k6, k7⟩, ⟨R7, W7, D7, kM, kD⟩, hx, hRB, hRP, hRS⟩⟩
set_option maxHeartbeats 4000000 in
theorem pm_worn {s1 : Tp} {s2 s3 : Bd} {s4 : Mo} {s5 : Pg} {s6 : Pa} {z7 : Nat → Option Bd} {m : Md} {N : Int} {x1 : Int32} (hJ : JJ N s1 s2 s3 s4 s5 s6 z7 m) : ∃ (r6 r7 : Int64) (M : Int) (mn : Md), (∀ Q : Int64 → Prop, Q r6  → wp_X6_worn Q s2 x1) ∧ (∀ Q : Int64 → Prop, Q r7 → wp_X7_worn Q m x1) ∧ mn = m ∧ JJ M s1 s2 s3 s4 s5 s6 z7 mn := by
  have hJ0 := hJ
  obtain ⟨⟨k1, ⟨R, W, k2⟩, ⟨R3, W3, k3⟩, k4, k5, k6, k7⟩, ⟨R7, W7, D7, kM, kD⟩, hx, hRB, hRP, hRS⟩ := hJ
  obtain ⟨r6, _, v6, _⟩ := dt_X6_worn s2 x1 (fun _ => True) (wq_X6_worn k2 (fun _ => trivial))
  obtain ⟨r7, _, v7, _⟩ := dt_X7_worn m x1 (fun _ => True) (wq_X7_worn kM (fun _ => trivial))
  exact ⟨r6, r7, N, m, fun Q h => v6 (fun o => Q o) h, fun Q h => v7 (fun o => Q o) h, rfl, ⟨⟨k1, ⟨R, W, k2⟩, ⟨R3, W3, k3⟩, k4, k5, k6, k7⟩, ⟨R7, W7, D7, kM, kD⟩, hx, hRB, hRP, hRS⟩⟩
set_option maxHeartbeats 4000000 in
theorem pm_drum {s1 : Tp} {s2 s3 : Bd} {s4 : Mo} {s5 : Pg} {s6 : Pa} {z7 : Nat → Option Bd} {m : Md} {N : Int} {x1 : Int32} {x2 : Int32} (hJ : JJ N s1 s2 s3 s4 s5 s6 z7 m) : ∃ (r6 r7 : Int32) (M : Int) (mn : Md), (∀ Q : Int32 → Prop, Q r6  → wp_X6_drum Q s2 x1 x2) ∧ (∀ Q : Int32 → Prop, Q r7 → wp_X7_drum Q m x1 x2) ∧ mn = m ∧ JJ M s1 s2 s3 s4 s5 s6 z7 mn := by
  have hJ0 := hJ
  obtain ⟨⟨k1, ⟨R, W, k2⟩, ⟨R3, W3, k3⟩, k4, k5, k6, k7⟩, ⟨R7, W7, D7, kM, kD⟩, hx, hRB, hRP, hRS⟩ := hJ
  obtain ⟨r6, _, v6, _⟩ := dt_X6_drum s2 x1 x2 (fun _ => True) (wq_X6_drum k2 (fun _ => trivial))
  obtain ⟨r7, _, v7, _⟩ := dt_X7_drum m x1 x2 (fun _ => True) (wq_X7_drum kM (fun _ => trivial))
  exact ⟨r6, r7, N, m, fun Q h => v6 (fun o => Q o) h, fun Q h => v7 (fun o => Q o) h, rfl, ⟨⟨k1, ⟨R, W, k2⟩, ⟨R3, W3, k3⟩, k4, k5, k6, k7⟩, ⟨R7, W7, D7, kM, kD⟩, hx, hRB, hRP, hRS⟩⟩
set_option maxHeartbeats 4000000 in
theorem pm_sign {s1 : Tp} {s2 s3 : Bd} {s4 : Mo} {s5 : Pg} {s6 : Pa} {z7 : Nat → Option Bd} {m : Md} {N : Int} {x1 : Int32} {x2 : Int32} (hJ : JJ N s1 s2 s3 s4 s5 s6 z7 m) : ∃ (r6 r7 : Int32) (M : Int) (mn : Md), (∀ Q : Int32 → Prop, Q r6  → wp_X6_sign Q s2 x1 x2) ∧ (∀ Q : Int32 → Prop, Q r7 → wp_X7_sign Q m x1 x2) ∧ mn = m ∧ JJ M s1 s2 s3 s4 s5 s6 z7 mn := by
  have hJ0 := hJ
  obtain ⟨⟨k1, ⟨R, W, k2⟩, ⟨R3, W3, k3⟩, k4, k5, k6, k7⟩, ⟨R7, W7, D7, kM, kD⟩, hx, hRB, hRP, hRS⟩ := hJ
  obtain ⟨r6, _, v6, _⟩ := dt_X6_sign s2 x1 x2 (fun _ => True) (wq_X6_sign k2 (fun _ => trivial))
  obtain ⟨r7, _, v7, _⟩ := dt_X7_sign m x1 x2 (fun _ => True) (wq_X7_sign kM (fun _ => trivial))
  exact ⟨r6, r7, N, m, fun Q h => v6 (fun o => Q o) h, fun Q h => v7 (fun o => Q o) h, rfl, ⟨⟨k1, ⟨R, W, k2⟩, ⟨R3, W3, k3⟩, k4, k5, k6, k7⟩, ⟨R7, W7, D7, kM, kD⟩, hx, hRB, hRP, hRS⟩⟩
set_option maxHeartbeats 4000000 in
theorem pm_at {s1 : Tp} {s2 s3 : Bd} {s4 : Mo} {s5 : Pg} {s6 : Pa} {z7 : Nat → Option Bd} {m : Md} {N : Int} {x1 : Int32} {x2 : Int32} {x3 : Int32} (hJ : JJ N s1 s2 s3 s4 s5 s6 z7 m) : ∃ (r6 r7 : Int32) (M : Int) (mn : Md), (∀ Q : Int32 → Prop, Q r6  → wp_X6_at Q s2 x1 x2 x3) ∧ (∀ Q : Int32 → Prop, Q r7 → wp_X7_at Q m x1 x2 x3) ∧ mn = m ∧ JJ M s1 s2 s3 s4 s5 s6 z7 mn := by
  have hJ0 := hJ
  obtain ⟨⟨k1, ⟨R, W, k2⟩, ⟨R3, W3, k3⟩, k4, k5, k6, k7⟩, ⟨R7, W7, D7, kM, kD⟩, hx, hRB, hRP, hRS⟩ := hJ
  obtain ⟨r6, _, v6, _⟩ := dt_X6_at s2 x1 x2 x3 (fun _ => True) (wq_X6_at k2 (fun _ => trivial))
  obtain ⟨r7, _, v7, _⟩ := dt_X7_at m x1 x2 x3 (fun _ => True) (wq_X7_at kM kD (fun _ => trivial))
  exact ⟨r6, r7, N, m, fun Q h => v6 (fun o => Q o) h, fun Q h => v7 (fun o => Q o) h, rfl, ⟨⟨k1, ⟨R, W, k2⟩, ⟨R3, W3, k3⟩, k4, k5, k6, k7⟩, ⟨R7, W7, D7, kM, kD⟩, hx, hRB, hRP, hRS⟩⟩
set_option maxHeartbeats 4000000 in
theorem pm_which {s1 : Tp} {s2 s3 : Bd} {s4 : Mo} {s5 : Pg} {s6 : Pa} {z7 : Nat → Option Bd} {m : Md} {N : Int} {x1 : Int32} (hJ : JJ N s1 s2 s3 s4 s5 s6 z7 m) : ∃ (r6 r7 : Int64) (M : Int) (s4n : Mo) (mn : Md), (∀ Q : Int64 → Mo → Prop, Q r6 s4n → wp_X6_which Q s2 s4 x1) ∧ (∀ Q : Int64 → Md → Prop, Q r7 mn → wp_X7_which Q m x1) ∧ JJ M s1 s2 s3 s4n s5 s6 z7 mn := by
  have hJ0 := hJ
  obtain ⟨⟨k1, ⟨R, W, k2⟩, ⟨R3, W3, k3⟩, k4, k5, k6, k7⟩, ⟨R7, W7, D7, kM, kD⟩, hx, hRB, hRP, hRS⟩ := hJ
  obtain ⟨o, a6, v6, _⟩ := dt_X6_which s2 s4 x1 (fun o => mo o.2) (wq_X6_which k2 k4 (fun r u b0 => b0))
  obtain ⟨r6, s4n⟩ := o
  have g0 := a6
  obtain ⟨o7, a7, v7, _⟩ := dt_X7_which m x1 (fun o => ∃ M R W D9, mb M R W D9 o.2 ∧ (R ≤ 0 ∨ 0 < D9) ∧ M = N) (wq_X7_which kM kD (fun r u b0 => ⟨N, R7, W7, D7, b0, kD, rfl⟩))
  obtain ⟨o8, o8e, ht⟩ := fx_X7_which m x1 (fun x => x = o7) (v7 (fun x => x = o7) rfl)
  rw [o8e] at ht
  obtain ⟨r7, mn⟩ := o7
  obtain ⟨M7, R8, W8, D8, m7, d7, l7⟩ := a7
  have ht : mn.2.2.2 2 = m.2.2.2 2 := ht
  have m70 := m7
  have eM : M7 = N := by omega
  rw [eM] at m7
  have hxn : RX s1 mn := RX_k hx rfl (Int32.toInt_inj.mp (k1.1.trans m7.1.symm)) m7.1 m7.2.2.1 ht
  obtain ⟨o2, o2e, hp⟩ := fp_X7_which m x1 (fun x => x = (r7, mn)) (v7 (fun x => x = (r7, mn)) rfl)
  rw [o2e] at hp
  obtain ⟨o3, o3e, hw⟩ := fw_X7_which m x1 (fun x => x = (r7, mn)) (v7 (fun x => x = (r7, mn)) rfl)
  rw [o3e] at hw
  have hp : mn.1 0 = m.1 0 ∧ mn.2.2.1 1 = m.2.2.1 1 ∧ mn.2.2.1 2 = m.2.2.1 2 ∧ mn.2.2.2 0 = m.2.2.2 0 := by simpa only [Prod.mk.injEq] using hp
  have hw : mn.2.2.1 0 = m.2.2.1 0 := hw
  have jB : RB s2 (mn.2.2.1 0) := by rw [hw]; exact hRB
  have jP := RP_k hRP hp.1 hp.2.1
  have jS : RSh z7 mn := RSh_k hRS hp.2.2.2 hp.2.2.1
  exact ⟨r6, r7, N, s4n, mn, fun Q h => v6 (fun o => Q o.1 o.2) h, fun Q h => v7 (fun o => Q o.1 o.2) h, ⟨⟨k1, ⟨R, W, k2⟩, ⟨R3, W3, k3⟩, g0, k5, k6, k7⟩, ⟨R8, W8, D8, m7, d7⟩, hxn, jB, jP, jS⟩⟩
set_option maxHeartbeats 4000000 in
theorem pm_left {s1 : Tp} {s2 s3 : Bd} {s4 : Mo} {s5 : Pg} {s6 : Pa} {z7 : Nat → Option Bd} {m : Md} {N : Int} {x1 : Int32} (hJ : JJ N s1 s2 s3 s4 s5 s6 z7 m) : ∃ (r6 r7 : Int32) (M : Int) (mn : Md), (∀ Q : Int32 → Prop, Q r6  → wp_X6_left Q s2 x1) ∧ (∀ Q : Int32 → Prop, Q r7 → wp_X7_left Q m x1) ∧ mn = m ∧ JJ M s1 s2 s3 s4 s5 s6 z7 mn := by
  have hJ0 := hJ
  obtain ⟨⟨k1, ⟨R, W, k2⟩, ⟨R3, W3, k3⟩, k4, k5, k6, k7⟩, ⟨R7, W7, D7, kM, kD⟩, hx, hRB, hRP, hRS⟩ := hJ
  obtain ⟨r6, _, v6, _⟩ := dt_X6_left s2 x1 (fun _ => True) (wq_X6_left k2 (fun _ => trivial))
  obtain ⟨r7, _, v7, _⟩ := dt_X7_left m x1 (fun _ => True) (wq_X7_left kM (fun _ => trivial))
  exact ⟨r6, r7, N, m, fun Q h => v6 (fun o => Q o) h, fun Q h => v7 (fun o => Q o) h, rfl, ⟨⟨k1, ⟨R, W, k2⟩, ⟨R3, W3, k3⟩, k4, k5, k6, k7⟩, ⟨R7, W7, D7, kM, kD⟩, hx, hRB, hRP, hRS⟩⟩
set_option maxHeartbeats 4000000 in
theorem pm_when {s1 : Tp} {s2 s3 : Bd} {s4 : Mo} {s5 : Pg} {s6 : Pa} {z7 : Nat → Option Bd} {m : Md} {N : Int} {x1 : Int32} (hJ : JJ N s1 s2 s3 s4 s5 s6 z7 m) : ∃ (r6 r7 : Int32) (M : Int) (s3n : Bd) (s4n : Mo) (mn : Md), (∀ Q : Int32 → Bd → Mo → Prop, Q r6 s3n s4n → wp_X6_when Q s2 s3 s4 x1) ∧ (∀ Q : Int32 → Md → Prop, Q r7 mn → wp_X7_when Q m x1) ∧ JJ M s1 s2 s3n s4n s5 s6 z7 mn := by
  have hJ0 := hJ
  obtain ⟨⟨k1, ⟨R, W, k2⟩, ⟨R3, W3, k3⟩, k4, k5, k6, k7⟩, ⟨R7, W7, D7, kM, kD⟩, hx, hRB, hRP, hRS⟩ := hJ
  obtain ⟨o, a6, v6, _⟩ := dt_X6_when s2 s3 s4 x1 (fun o => bx o.2.1 ∧ mo o.2.2) (wq_X6_when k2 k3 k4 (fun r ua ub R4 W4 b0 b1 => ⟨⟨R4, W4, b0⟩, b1⟩))
  obtain ⟨r6, s3n, s4n⟩ := o
  obtain ⟨g0, g1⟩ := a6
  obtain ⟨o7, a7, v7, _⟩ := dt_X7_when m x1 (fun o => ∃ M R W D9, mb M R W D9 o.2 ∧ (R ≤ 0 ∨ 0 < D9) ∧ M = N) (wq_X7_when kM kD (fun r u R4 W4 D4 b0 b1 => ⟨N, R4, W4, D4, b0, b1, rfl⟩))
  obtain ⟨o8, o8e, ht⟩ := fx_X7_when m x1 (fun x => x = o7) (v7 (fun x => x = o7) rfl)
  rw [o8e] at ht
  obtain ⟨r7, mn⟩ := o7
  obtain ⟨M7, R8, W8, D8, m7, d7, l7⟩ := a7
  have ht : mn.2.2.2 2 = m.2.2.2 2 := ht
  have m70 := m7
  have eM : M7 = N := by omega
  rw [eM] at m7
  have hxn : RX s1 mn := RX_k hx rfl (Int32.toInt_inj.mp (k1.1.trans m7.1.symm)) m7.1 m7.2.2.1 ht
  obtain ⟨ra, y_s3, y_s4, ym, e6, e7, nb⟩ := sm_when (P6 := fun r a_s3 a_s4 => (r, a_s3, a_s4) = (r6, s3n, s4n)) (P7 := fun r u => (r, u) = (r7, mn)) hRB kM kD (v6 (fun x => x = (r6, s3n, s4n)) rfl) (v7 (fun x => x = (r7, mn)) rfl)
  have f7 : ra = r7 ∧ ym = mn := by simpa only [Prod.mk.injEq] using e7
  have f6 : ra = r6 ∧ y_s3 = s3n ∧ y_s4 = s4n := by simpa only [Prod.mk.injEq] using e6
  rw [f7.2] at nb
  have jB : RB s2 (mn.2.2.1 0) := RB_cg kM.2.2.2.2.1 (fun i hi => nb.1 i (by omega)) hRB
  have jP0 : RP s6 mn := RP_k hRP nb.2.1 nb.2.2.1
  have jS : RSh z7 mn := RSh_k hRS nb.2.2.2.2 nb.2.2.2.1
  have jP := jP0
  exact ⟨r6, r7, N, s3n, s4n, mn, fun Q h => v6 (fun o => Q o.1 o.2.1 o.2.2) h, fun Q h => v7 (fun o => Q o.1 o.2) h, ⟨⟨k1, ⟨R, W, k2⟩, g0, g1, k5, k6, k7⟩, ⟨R8, W8, D8, m7, d7⟩, hxn, jB, jP, jS⟩⟩
set_option maxHeartbeats 4000000 in
theorem pm_loudest {s1 : Tp} {s2 s3 : Bd} {s4 : Mo} {s5 : Pg} {s6 : Pa} {z7 : Nat → Option Bd} {m : Md} {N : Int} {x1 : Int32} (hJ : JJ N s1 s2 s3 s4 s5 s6 z7 m) : ∃ (r6 r7 : Int32) (M : Int) (s3n : Bd) (s4n : Mo) (mn : Md), (∀ Q : Int32 → Bd → Mo → Prop, Q r6 s3n s4n → wp_X6_loudest Q s2 s3 s4 x1) ∧ (∀ Q : Int32 → Md → Prop, Q r7 mn → wp_X7_loudest Q m x1) ∧ JJ M s1 s2 s3n s4n s5 s6 z7 mn := by
  have hJ0 := hJ
  obtain ⟨⟨k1, ⟨R, W, k2⟩, ⟨R3, W3, k3⟩, k4, k5, k6, k7⟩, ⟨R7, W7, D7, kM, kD⟩, hx, hRB, hRP, hRS⟩ := hJ
  obtain ⟨o, a6, v6, _⟩ := dt_X6_loudest s2 s3 s4 x1 (fun o => bx o.2.1 ∧ mo o.2.2) (wq_X6_loudest k2 k3 k4 (fun r ua ub R4 W4 b0 b1 => ⟨⟨R4, W4, b0⟩, b1⟩))
  obtain ⟨r6, s3n, s4n⟩ := o
  obtain ⟨g0, g1⟩ := a6
  obtain ⟨o7, a7, v7, _⟩ := dt_X7_loudest m x1 (fun o => ∃ M R W D9, mb M R W D9 o.2 ∧ (R ≤ 0 ∨ 0 < D9) ∧ M = N) (wq_X7_loudest kM kD (fun r u R4 W4 D4 b0 b1 => ⟨N, R4, W4, D4, b0, b1, rfl⟩))
  obtain ⟨o8, o8e, ht⟩ := fx_X7_loudest m x1 (fun x => x = o7) (v7 (fun x => x = o7) rfl)
  rw [o8e] at ht
  obtain ⟨r7, mn⟩ := o7
  obtain ⟨M7, R8, W8, D8, m7, d7, l7⟩ := a7
  have ht : mn.2.2.2 2 = m.2.2.2 2 := ht
  have m70 := m7
  have eM : M7 = N := by omega
  rw [eM] at m7
  have hxn : RX s1 mn := RX_k hx rfl (Int32.toInt_inj.mp (k1.1.trans m7.1.symm)) m7.1 m7.2.2.1 ht
  obtain ⟨ra, y_s3, y_s4, ym, e6, e7, nb⟩ := sm_loudest (P6 := fun r a_s3 a_s4 => (r, a_s3, a_s4) = (r6, s3n, s4n)) (P7 := fun r u => (r, u) = (r7, mn)) hRB kM kD (v6 (fun x => x = (r6, s3n, s4n)) rfl) (v7 (fun x => x = (r7, mn)) rfl)
  have f7 : ra = r7 ∧ ym = mn := by simpa only [Prod.mk.injEq] using e7
  have f6 : ra = r6 ∧ y_s3 = s3n ∧ y_s4 = s4n := by simpa only [Prod.mk.injEq] using e6
  rw [f7.2] at nb
  have jB : RB s2 (mn.2.2.1 0) := RB_cg kM.2.2.2.2.1 (fun i hi => nb.1 i (by omega)) hRB
  have jP0 : RP s6 mn := RP_k hRP nb.2.1 nb.2.2.1
  have jS : RSh z7 mn := RSh_k hRS nb.2.2.2.2 nb.2.2.2.1
  have jP := jP0
  exact ⟨r6, r7, N, s3n, s4n, mn, fun Q h => v6 (fun o => Q o.1 o.2.1 o.2.2) h, fun Q h => v7 (fun o => Q o.1 o.2) h, ⟨⟨k1, ⟨R, W, k2⟩, g0, g1, k5, k6, k7⟩, ⟨R8, W8, D8, m7, d7⟩, hxn, jB, jP, jS⟩⟩
set_option maxHeartbeats 4000000 in
theorem pm_total {s1 : Tp} {s2 s3 : Bd} {s4 : Mo} {s5 : Pg} {s6 : Pa} {z7 : Nat → Option Bd} {m : Md} {N : Int} {x1 : Int32} (hJ : JJ N s1 s2 s3 s4 s5 s6 z7 m) : ∃ (r6 r7 : Int32) (M : Int) (mn : Md), (∀ Q : Int32 → Prop, Q r6  → wp_X6_total Q s2 x1) ∧ (∀ Q : Int32 → Prop, Q r7 → wp_X7_total Q m x1) ∧ mn = m ∧ JJ M s1 s2 s3 s4 s5 s6 z7 mn := by
  have hJ0 := hJ
  obtain ⟨⟨k1, ⟨R, W, k2⟩, ⟨R3, W3, k3⟩, k4, k5, k6, k7⟩, ⟨R7, W7, D7, kM, kD⟩, hx, hRB, hRP, hRS⟩ := hJ
  obtain ⟨r6, _, v6, _⟩ := dt_X6_total s2 x1 (fun _ => True) (wq_X6_total k2 (fun _ => trivial))
  obtain ⟨r7, _, v7, _⟩ := dt_X7_total m x1 (fun _ => True) (wq_X7_total kM (fun _ => trivial))
  exact ⟨r6, r7, N, m, fun Q h => v6 (fun o => Q o) h, fun Q h => v7 (fun o => Q o) h, rfl, ⟨⟨k1, ⟨R, W, k2⟩, ⟨R3, W3, k3⟩, k4, k5, k6, k7⟩, ⟨R7, W7, D7, kM, kD⟩, hx, hRB, hRP, hRS⟩⟩
set_option maxHeartbeats 4000000 in
theorem pm_cost {s1 : Tp} {s2 s3 : Bd} {s4 : Mo} {s5 : Pg} {s6 : Pa} {z7 : Nat → Option Bd} {m : Md} {N : Int} {x1 : Int32} (hJ : JJ N s1 s2 s3 s4 s5 s6 z7 m) : ∃ (r6 r7 : Int32) (M : Int) (mn : Md), (∀ Q : Int32 → Prop, Q r6  → wp_X6_cost Q s1 s2 x1) ∧ (∀ Q : Int32 → Md → Prop, Q r7 mn → wp_X7_cost Q m x1) ∧ JJ M s1 s2 s3 s4 s5 s6 z7 mn := by
  have hJ0 := hJ
  obtain ⟨⟨k1, ⟨R, W, k2⟩, ⟨R3, W3, k3⟩, k4, k5, k6, k7⟩, ⟨R7, W7, D7, kM, kD⟩, hx, hRB, hRP, hRS⟩ := hJ
  obtain ⟨r6, _, v6, _⟩ := dt_X6_cost s1 s2 x1 (fun _ => True) (wq_X6_cost k1 k2 (fun _ => trivial))
  obtain ⟨o7, a7, v7, _⟩ := dt_X7_cost m x1 (fun o => ∃ M R W D9, mb M R W D9 o.2 ∧ (R ≤ 0 ∨ 0 < D9) ∧ M = N) (wq_X7_cost kM kD (fun r u b0 => ⟨N, R7, W7, D7, b0, kD, rfl⟩))
  obtain ⟨o8, o8e, ht⟩ := fx_X7_cost m x1 (fun x => x = o7) (v7 (fun x => x = o7) rfl)
  rw [o8e] at ht
  obtain ⟨r7, mn⟩ := o7
  obtain ⟨M7, R8, W8, D8, m7, d7, l7⟩ := a7
  have ht : mn.2.2.2 2 = m.2.2.2 2 := ht
  have m70 := m7
  have eM : M7 = N := by omega
  rw [eM] at m7
  have hxn : RX s1 mn := RX_k hx rfl (Int32.toInt_inj.mp (k1.1.trans m7.1.symm)) m7.1 m7.2.2.1 ht
  obtain ⟨o2, o2e, hp⟩ := fp_X7_cost m x1 (fun x => x = (r7, mn)) (v7 (fun x => x = (r7, mn)) rfl)
  rw [o2e] at hp
  obtain ⟨o3, o3e, hw⟩ := fw_X7_cost m x1 (fun x => x = (r7, mn)) (v7 (fun x => x = (r7, mn)) rfl)
  rw [o3e] at hw
  have hp : mn.1 0 = m.1 0 ∧ mn.2.2.1 1 = m.2.2.1 1 ∧ mn.2.2.1 2 = m.2.2.1 2 ∧ mn.2.2.2 0 = m.2.2.2 0 := by simpa only [Prod.mk.injEq] using hp
  have hw : mn.2.2.1 0 = m.2.2.1 0 := hw
  have jB : RB s2 (mn.2.2.1 0) := by rw [hw]; exact hRB
  have jP := RP_k hRP hp.1 hp.2.1
  have jS : RSh z7 mn := RSh_k hRS hp.2.2.2 hp.2.2.1
  exact ⟨r6, r7, N, mn, fun Q h => v6 (fun o => Q o) h, fun Q h => v7 (fun o => Q o.1 o.2) h, ⟨⟨k1, ⟨R, W, k2⟩, ⟨R3, W3, k3⟩, k4, k5, k6, k7⟩, ⟨R8, W8, D8, m7, d7⟩, hxn, jB, jP, jS⟩⟩
set_option maxHeartbeats 4000000 in
theorem pm_best {s1 : Tp} {s2 s3 : Bd} {s4 : Mo} {s5 : Pg} {s6 : Pa} {z7 : Nat → Option Bd} {m : Md} {N : Int} {x1 : Int32} {x2 : Int32} (hJ : JJ N s1 s2 s3 s4 s5 s6 z7 m) : ∃ (r6 r7 : Int32) (M : Int) (mn : Md), (∀ Q : Int32 → Prop, Q r6  → wp_X6_best Q s1 s2 x1 x2) ∧ (∀ Q : Int32 → Md → Prop, Q r7 mn → wp_X7_best Q m x1 x2) ∧ JJ M s1 s2 s3 s4 s5 s6 z7 mn := by
  have hJ0 := hJ
  obtain ⟨⟨k1, ⟨R, W, k2⟩, ⟨R3, W3, k3⟩, k4, k5, k6, k7⟩, ⟨R7, W7, D7, kM, kD⟩, hx, hRB, hRP, hRS⟩ := hJ
  obtain ⟨r6, _, v6, _⟩ := dt_X6_best s1 s2 x1 x2 (fun _ => True) (wq_X6_best k1 k2 (fun _ => trivial))
  obtain ⟨o7, a7, v7, _⟩ := dt_X7_best m x1 x2 (fun o => ∃ M R W D9, mb M R W D9 o.2 ∧ (R ≤ 0 ∨ 0 < D9) ∧ M = N) (wq_X7_best kM kD (fun r u b0 => ⟨N, R7, W7, D7, b0, kD, rfl⟩))
  obtain ⟨o8, o8e, ht⟩ := fx_X7_best m x1 x2 (fun x => x = o7) (v7 (fun x => x = o7) rfl)
  rw [o8e] at ht
  obtain ⟨r7, mn⟩ := o7
  obtain ⟨M7, R8, W8, D8, m7, d7, l7⟩ := a7
  have ht : mn.2.2.2 2 = m.2.2.2 2 := ht
  have m70 := m7
  have eM : M7 = N := by omega
  rw [eM] at m7
  have hxn : RX s1 mn := RX_k hx rfl (Int32.toInt_inj.mp (k1.1.trans m7.1.symm)) m7.1 m7.2.2.1 ht
  obtain ⟨o2, o2e, hp⟩ := fp_X7_best m x1 x2 (fun x => x = (r7, mn)) (v7 (fun x => x = (r7, mn)) rfl)
  rw [o2e] at hp
  obtain ⟨o3, o3e, hw⟩ := fw_X7_best m x1 x2 (fun x => x = (r7, mn)) (v7 (fun x => x = (r7, mn)) rfl)
  rw [o3e] at hw
  have hp : mn.1 0 = m.1 0 ∧ mn.2.2.1 1 = m.2.2.1 1 ∧ mn.2.2.1 2 = m.2.2.1 2 ∧ mn.2.2.2 0 = m.2.2.2 0 := by simpa only [Prod.mk.injEq] using hp
  have hw : mn.2.2.1 0 = m.2.2.1 0 := hw
  have jB : RB s2 (mn.2.2.1 0) := by rw [hw]; exact hRB
  have jP := RP_k hRP hp.1 hp.2.1
  have jS : RSh z7 mn := RSh_k hRS hp.2.2.2 hp.2.2.1
  exact ⟨r6, r7, N, mn, fun Q h => v6 (fun o => Q o) h, fun Q h => v7 (fun o => Q o.1 o.2) h, ⟨⟨k1, ⟨R, W, k2⟩, ⟨R3, W3, k3⟩, k4, k5, k6, k7⟩, ⟨R8, W8, D8, m7, d7⟩, hxn, jB, jP, jS⟩⟩
set_option maxHeartbeats 4000000 in
theorem pm_place {s1 : Tp} {s2 s3 : Bd} {s4 : Mo} {s5 : Pg} {s6 : Pa} {z7 : Nat → Option Bd} {m : Md} {N : Int} {x1 : Int32} {x2 : Int32} (hJ : JJ N s1 s2 s3 s4 s5 s6 z7 m) : ∃ (r6 r7 : Int32) (M : Int) (mn : Md), (∀ Q : Int32 → Prop, Q r6  → wp_X6_place Q s1 s2 x1 x2) ∧ (∀ Q : Int32 → Md → Prop, Q r7 mn → wp_X7_place Q m x1 x2) ∧ JJ M s1 s2 s3 s4 s5 s6 z7 mn := by
  have hJ0 := hJ
  obtain ⟨⟨k1, ⟨R, W, k2⟩, ⟨R3, W3, k3⟩, k4, k5, k6, k7⟩, ⟨R7, W7, D7, kM, kD⟩, hx, hRB, hRP, hRS⟩ := hJ
  obtain ⟨r6, _, v6, _⟩ := dt_X6_place s1 s2 x1 x2 (fun _ => True) (wq_X6_place k1 k2 (fun _ => trivial))
  obtain ⟨o7, a7, v7, _⟩ := dt_X7_place m x1 x2 (fun o => ∃ M R W D9, mb M R W D9 o.2 ∧ (R ≤ 0 ∨ 0 < D9) ∧ M = N) (wq_X7_place kM kD (fun r u b0 => ⟨N, R7, W7, D7, b0, kD, rfl⟩))
  obtain ⟨o8, o8e, ht⟩ := fx_X7_place m x1 x2 (fun x => x = o7) (v7 (fun x => x = o7) rfl)
  rw [o8e] at ht
  obtain ⟨r7, mn⟩ := o7
  obtain ⟨M7, R8, W8, D8, m7, d7, l7⟩ := a7
  have ht : mn.2.2.2 2 = m.2.2.2 2 := ht
  have m70 := m7
  have eM : M7 = N := by omega
  rw [eM] at m7
  have hxn : RX s1 mn := RX_k hx rfl (Int32.toInt_inj.mp (k1.1.trans m7.1.symm)) m7.1 m7.2.2.1 ht
  obtain ⟨o2, o2e, hp⟩ := fp_X7_place m x1 x2 (fun x => x = (r7, mn)) (v7 (fun x => x = (r7, mn)) rfl)
  rw [o2e] at hp
  obtain ⟨o3, o3e, hw⟩ := fw_X7_place m x1 x2 (fun x => x = (r7, mn)) (v7 (fun x => x = (r7, mn)) rfl)
  rw [o3e] at hw
  have hp : mn.1 0 = m.1 0 ∧ mn.2.2.1 1 = m.2.2.1 1 ∧ mn.2.2.1 2 = m.2.2.1 2 ∧ mn.2.2.2 0 = m.2.2.2 0 := by simpa only [Prod.mk.injEq] using hp
  have hw : mn.2.2.1 0 = m.2.2.1 0 := hw
  have jB : RB s2 (mn.2.2.1 0) := by rw [hw]; exact hRB
  have jP := RP_k hRP hp.1 hp.2.1
  have jS : RSh z7 mn := RSh_k hRS hp.2.2.2 hp.2.2.1
  exact ⟨r6, r7, N, mn, fun Q h => v6 (fun o => Q o) h, fun Q h => v7 (fun o => Q o.1 o.2) h, ⟨⟨k1, ⟨R, W, k2⟩, ⟨R3, W3, k3⟩, k4, k5, k6, k7⟩, ⟨R8, W8, D8, m7, d7⟩, hxn, jB, jP, jS⟩⟩
set_option maxHeartbeats 4000000 in
theorem pm_log {s1 : Tp} {s2 s3 : Bd} {s4 : Mo} {s5 : Pg} {s6 : Pa} {z7 : Nat → Option Bd} {m : Md} {N : Int} {x1 : Int32} {x2 : Int32} (hJ : JJ N s1 s2 s3 s4 s5 s6 z7 m) : ∃ (r6 r7 : Int32) (M : Int) (mn : Md), (∀ Q : Int32 → Prop, Q r6  → wp_X6_log Q s2 x1 x2) ∧ (∀ Q : Int32 → Prop, Q r7 → wp_X7_log Q m x1 x2) ∧ mn = m ∧ JJ M s1 s2 s3 s4 s5 s6 z7 mn := by
  have hJ0 := hJ
  obtain ⟨⟨k1, ⟨R, W, k2⟩, ⟨R3, W3, k3⟩, k4, k5, k6, k7⟩, ⟨R7, W7, D7, kM, kD⟩, hx, hRB, hRP, hRS⟩ := hJ
  obtain ⟨r6, _, v6, _⟩ := dt_X6_log s2 x1 x2 (fun _ => True) (wq_X6_log k2 (fun _ => trivial))
  obtain ⟨r7, _, v7, _⟩ := dt_X7_log m x1 x2 (fun _ => True) (wq_X7_log kM (fun _ => trivial))
  exact ⟨r6, r7, N, m, fun Q h => v6 (fun o => Q o) h, fun Q h => v7 (fun o => Q o) h, rfl, ⟨⟨k1, ⟨R, W, k2⟩, ⟨R3, W3, k3⟩, k4, k5, k6, k7⟩, ⟨R7, W7, D7, kM, kD⟩, hx, hRB, hRP, hRS⟩⟩
set_option maxHeartbeats 4000000 in
theorem pm_often {s1 : Tp} {s2 s3 : Bd} {s4 : Mo} {s5 : Pg} {s6 : Pa} {z7 : Nat → Option Bd} {m : Md} {N : Int} {x1 : Int32} {x2 : Int32} {x3 : Int32} (hJ : JJ N s1 s2 s3 s4 s5 s6 z7 m) : ∃ (r6 r7 : Int32) (M : Int) (mn : Md), (∀ Q : Int32 → Prop, Q r6  → wp_X6_often Q s2 x1 x2 x3) ∧ (∀ Q : Int32 → Prop, Q r7 → wp_X7_often Q m x1 x2 x3) ∧ mn = m ∧ JJ M s1 s2 s3 s4 s5 s6 z7 mn := by
  have hJ0 := hJ
  obtain ⟨⟨k1, ⟨R, W, k2⟩, ⟨R3, W3, k3⟩, k4, k5, k6, k7⟩, ⟨R7, W7, D7, kM, kD⟩, hx, hRB, hRP, hRS⟩ := hJ
  obtain ⟨r6, _, v6, _⟩ := dt_X6_often s2 x1 x2 x3 (fun _ => True) (wq_X6_often k2 (fun _ => trivial))
  obtain ⟨r7, _, v7, _⟩ := dt_X7_often m x1 x2 x3 (fun _ => True) (wq_X7_often kM (fun _ => trivial))
  exact ⟨r6, r7, N, m, fun Q h => v6 (fun o => Q o) h, fun Q h => v7 (fun o => Q o) h, rfl, ⟨⟨k1, ⟨R, W, k2⟩, ⟨R3, W3, k3⟩, k4, k5, k6, k7⟩, ⟨R7, W7, D7, kM, kD⟩, hx, hRB, hRP, hRS⟩⟩
set_option maxHeartbeats 4000000 in
theorem pm_usual {s1 : Tp} {s2 s3 : Bd} {s4 : Mo} {s5 : Pg} {s6 : Pa} {z7 : Nat → Option Bd} {m : Md} {N : Int} {x1 : Int32} {x2 : Int32} (hJ : JJ N s1 s2 s3 s4 s5 s6 z7 m) : ∃ (r6 r7 : Int32) (M : Int) (mn : Md), (∀ Q : Int32 → Prop, Q r6  → wp_X6_usual Q s2 x1 x2) ∧ (∀ Q : Int32 → Prop, Q r7 → wp_X7_usual Q m x1 x2) ∧ mn = m ∧ JJ M s1 s2 s3 s4 s5 s6 z7 mn := by
  have hJ0 := hJ
  obtain ⟨⟨k1, ⟨R, W, k2⟩, ⟨R3, W3, k3⟩, k4, k5, k6, k7⟩, ⟨R7, W7, D7, kM, kD⟩, hx, hRB, hRP, hRS⟩ := hJ
  obtain ⟨r6, _, v6, _⟩ := dt_X6_usual s2 x1 x2 (fun _ => True) (wq_X6_usual k2 (fun _ => trivial))
  obtain ⟨r7, _, v7, _⟩ := dt_X7_usual m x1 x2 (fun _ => True) (wq_X7_usual kM (fun _ => trivial))
  exact ⟨r6, r7, N, m, fun Q h => v6 (fun o => Q o) h, fun Q h => v7 (fun o => Q o) h, rfl, ⟨⟨k1, ⟨R, W, k2⟩, ⟨R3, W3, k3⟩, k4, k5, k6, k7⟩, ⟨R7, W7, D7, kM, kD⟩, hx, hRB, hRP, hRS⟩⟩
set_option maxHeartbeats 4000000 in
theorem pm_better {s1 : Tp} {s2 s3 : Bd} {s4 : Mo} {s5 : Pg} {s6 : Pa} {z7 : Nat → Option Bd} {m : Md} {N : Int} {x1 : Int32} {x2 : Int32} (hJ : JJ N s1 s2 s3 s4 s5 s6 z7 m) : ∃ (r6 r7 : Int32) (M : Int) (mn : Md), (∀ Q : Int32 → Prop, Q r6  → wp_X6_better Q s2 x1 x2) ∧ (∀ Q : Int32 → Prop, Q r7 → wp_X7_better Q m x1 x2) ∧ mn = m ∧ JJ M s1 s2 s3 s4 s5 s6 z7 mn := by
  have hJ0 := hJ
  obtain ⟨⟨k1, ⟨R, W, k2⟩, ⟨R3, W3, k3⟩, k4, k5, k6, k7⟩, ⟨R7, W7, D7, kM, kD⟩, hx, hRB, hRP, hRS⟩ := hJ
  obtain ⟨r6, _, v6, _⟩ := dt_X6_better s2 x1 x2 (fun _ => True) (wq_X6_better k2 (fun _ => trivial))
  obtain ⟨r7, _, v7, _⟩ := dt_X7_better m x1 x2 (fun _ => True) (wq_X7_better kM (fun _ => trivial))
  exact ⟨r6, r7, N, m, fun Q h => v6 (fun o => Q o) h, fun Q h => v7 (fun o => Q o) h, rfl, ⟨⟨k1, ⟨R, W, k2⟩, ⟨R3, W3, k3⟩, k4, k5, k6, k7⟩, ⟨R7, W7, D7, kM, kD⟩, hx, hRB, hRP, hRS⟩⟩
set_option maxHeartbeats 4000000 in
theorem pm_farthest {s1 : Tp} {s2 s3 : Bd} {s4 : Mo} {s5 : Pg} {s6 : Pa} {z7 : Nat → Option Bd} {m : Md} {N : Int} {x1 : Int32} {x2 : Int32} (hJ : JJ N s1 s2 s3 s4 s5 s6 z7 m) : ∃ (r6 r7 : Int32) (M : Int) (mn : Md), (∀ Q : Int32 → Prop, Q r6  → wp_X6_farthest Q s2 x1 x2) ∧ (∀ Q : Int32 → Prop, Q r7 → wp_X7_farthest Q m x1 x2) ∧ mn = m ∧ JJ M s1 s2 s3 s4 s5 s6 z7 mn := by
  have hJ0 := hJ
  obtain ⟨⟨k1, ⟨R, W, k2⟩, ⟨R3, W3, k3⟩, k4, k5, k6, k7⟩, ⟨R7, W7, D7, kM, kD⟩, hx, hRB, hRP, hRS⟩ := hJ
  obtain ⟨r6, _, v6, _⟩ := dt_X6_farthest s2 x1 x2 (fun _ => True) (wq_X6_farthest k2 (fun _ => trivial))
  obtain ⟨r7, _, v7, _⟩ := dt_X7_farthest m x1 x2 (fun _ => True) (wq_X7_farthest kM kD (fun _ => trivial))
  exact ⟨r6, r7, N, m, fun Q h => v6 (fun o => Q o) h, fun Q h => v7 (fun o => Q o) h, rfl, ⟨⟨k1, ⟨R, W, k2⟩, ⟨R3, W3, k3⟩, k4, k5, k6, k7⟩, ⟨R7, W7, D7, kM, kD⟩, hx, hRB, hRP, hRS⟩⟩
set_option maxHeartbeats 4000000 in
theorem pm_lacks {s1 : Tp} {s2 s3 : Bd} {s4 : Mo} {s5 : Pg} {s6 : Pa} {z7 : Nat → Option Bd} {m : Md} {N : Int} {x1 : Int32} {x2 : Int32} (hJ : JJ N s1 s2 s3 s4 s5 s6 z7 m) : ∃ (r6 r7 : Int32) (M : Int) (mn : Md), (∀ Q : Int32 → Prop, Q r6  → wp_X6_lacks Q s2 x1 x2) ∧ (∀ Q : Int32 → Prop, Q r7 → wp_X7_lacks Q m x1 x2) ∧ mn = m ∧ JJ M s1 s2 s3 s4 s5 s6 z7 mn ∧ r6 = r7 := by
  have hJ0 := hJ
  obtain ⟨⟨k1, ⟨R, W, k2⟩, ⟨R3, W3, k3⟩, k4, k5, k6, k7⟩, ⟨R7, W7, D7, kM, kD⟩, hx, hRB, hRP, hRS⟩ := hJ
  obtain ⟨r6, _, v6, _⟩ := dt_X6_lacks s2 x1 x2 (fun _ => True) (wq_X6_lacks k2 (fun _ => trivial))
  obtain ⟨r7, _, v7, _⟩ := dt_X7_lacks m x1 x2 (fun _ => True) (wq_X7_lacks kM kD (fun _ => trivial))
  have er : r6 = r7 := by
    obtain ⟨ra, e6, e7⟩ := sq_lacks (P6 := fun r => r = r6) (P7 := fun r => r = r7) hRB kM kD (v6 (fun x => x = r6) rfl) (v7 (fun x => x = r7) rfl)
    exact e6.symm.trans e7
  exact ⟨r6, r7, N, m, fun Q h => v6 (fun o => Q o) h, fun Q h => v7 (fun o => Q o) h, rfl, ⟨⟨k1, ⟨R, W, k2⟩, ⟨R3, W3, k3⟩, k4, k5, k6, k7⟩, ⟨R7, W7, D7, kM, kD⟩, hx, hRB, hRP, hRS⟩, er⟩
set_option maxHeartbeats 4000000 in
theorem pm_rests {s1 : Tp} {s2 s3 : Bd} {s4 : Mo} {s5 : Pg} {s6 : Pa} {z7 : Nat → Option Bd} {m : Md} {N : Int} {x1 : Int32} (hJ : JJ N s1 s2 s3 s4 s5 s6 z7 m) : ∃ (r6 r7 : Int32) (M : Int) (s3n : Bd) (s4n : Mo) (mn : Md), (∀ Q : Int32 → Bd → Mo → Prop, Q r6 s3n s4n → wp_X6_rests Q s2 s3 s4 x1) ∧ (∀ Q : Int32 → Md → Prop, Q r7 mn → wp_X7_rests Q m x1) ∧ JJ M s1 s2 s3n s4n s5 s6 z7 mn := by
  have hJ0 := hJ
  obtain ⟨⟨k1, ⟨R, W, k2⟩, ⟨R3, W3, k3⟩, k4, k5, k6, k7⟩, ⟨R7, W7, D7, kM, kD⟩, hx, hRB, hRP, hRS⟩ := hJ
  obtain ⟨o, a6, v6, _⟩ := dt_X6_rests s2 s3 s4 x1 (fun o => bx o.2.1 ∧ mo o.2.2) (wq_X6_rests k2 k3 k4 (fun r ua ub R4 W4 b0 b1 => ⟨⟨R4, W4, b0⟩, b1⟩))
  obtain ⟨r6, s3n, s4n⟩ := o
  obtain ⟨g0, g1⟩ := a6
  obtain ⟨o7, a7, v7, _⟩ := dt_X7_rests m x1 (fun o => ∃ M R W D9, mb M R W D9 o.2 ∧ (R ≤ 0 ∨ 0 < D9) ∧ M = N) (wq_X7_rests kM kD (fun r u R4 W4 D4 b0 b1 => ⟨N, R4, W4, D4, b0, b1, rfl⟩))
  obtain ⟨o8, o8e, ht⟩ := fx_X7_rests m x1 (fun x => x = o7) (v7 (fun x => x = o7) rfl)
  rw [o8e] at ht
  obtain ⟨r7, mn⟩ := o7
  obtain ⟨M7, R8, W8, D8, m7, d7, l7⟩ := a7
  have ht : mn.2.2.2 2 = m.2.2.2 2 := ht
  have m70 := m7
  have eM : M7 = N := by omega
  rw [eM] at m7
  have hxn : RX s1 mn := RX_k hx rfl (Int32.toInt_inj.mp (k1.1.trans m7.1.symm)) m7.1 m7.2.2.1 ht
  obtain ⟨ra, y_s3, y_s4, ym, e6, e7, nb⟩ := sm_rests (P6 := fun r a_s3 a_s4 => (r, a_s3, a_s4) = (r6, s3n, s4n)) (P7 := fun r u => (r, u) = (r7, mn)) hRB kM kD (v6 (fun x => x = (r6, s3n, s4n)) rfl) (v7 (fun x => x = (r7, mn)) rfl)
  have f7 : ra = r7 ∧ ym = mn := by simpa only [Prod.mk.injEq] using e7
  have f6 : ra = r6 ∧ y_s3 = s3n ∧ y_s4 = s4n := by simpa only [Prod.mk.injEq] using e6
  rw [f7.2] at nb
  have jB : RB s2 (mn.2.2.1 0) := RB_cg kM.2.2.2.2.1 (fun i hi => nb.1 i (by omega)) hRB
  have jP0 : RP s6 mn := RP_k hRP nb.2.1 nb.2.2.1
  have jS : RSh z7 mn := RSh_k hRS nb.2.2.2.2 nb.2.2.2.1
  have jP := jP0
  exact ⟨r6, r7, N, s3n, s4n, mn, fun Q h => v6 (fun o => Q o.1 o.2.1 o.2.2) h, fun Q h => v7 (fun o => Q o.1 o.2) h, ⟨⟨k1, ⟨R, W, k2⟩, g0, g1, k5, k6, k7⟩, ⟨R8, W8, D8, m7, d7⟩, hxn, jB, jP, jS⟩⟩
set_option maxHeartbeats 4000000 in
theorem pm_unlike {s1 : Tp} {s2 s3 : Bd} {s4 : Mo} {s5 : Pg} {s6 : Pa} {z7 : Nat → Option Bd} {m : Md} {N : Int} {x1 : Int32} {x2 : Int32} (hJ : JJ N s1 s2 s3 s4 s5 s6 z7 m) : ∃ (r6 r7 : Int32) (M : Int) (mn : Md), (∀ Q : Int32 → Prop, Q r6  → wp_X6_unlike Q s2 x1 x2) ∧ (∀ Q : Int32 → Prop, Q r7 → wp_X7_unlike Q m x1 x2) ∧ mn = m ∧ JJ M s1 s2 s3 s4 s5 s6 z7 mn := by
  have hJ0 := hJ
  obtain ⟨⟨k1, ⟨R, W, k2⟩, ⟨R3, W3, k3⟩, k4, k5, k6, k7⟩, ⟨R7, W7, D7, kM, kD⟩, hx, hRB, hRP, hRS⟩ := hJ
  obtain ⟨r6, _, v6, _⟩ := dt_X6_unlike s2 x1 x2 (fun _ => True) (wq_X6_unlike k2 (fun _ => trivial))
  obtain ⟨r7, _, v7, _⟩ := dt_X7_unlike m x1 x2 (fun _ => True) (wq_X7_unlike kM kD (fun _ => trivial))
  exact ⟨r6, r7, N, m, fun Q h => v6 (fun o => Q o) h, fun Q h => v7 (fun o => Q o) h, rfl, ⟨⟨k1, ⟨R, W, k2⟩, ⟨R3, W3, k3⟩, k4, k5, k6, k7⟩, ⟨R7, W7, D7, kM, kD⟩, hx, hRB, hRP, hRS⟩⟩
set_option maxHeartbeats 4000000 in
theorem pm_letter {s1 : Tp} {s2 s3 : Bd} {s4 : Mo} {s5 : Pg} {s6 : Pa} {z7 : Nat → Option Bd} {m : Md} {N : Int} {x1 : Int32} {x2 : Int32} (hJ : JJ N s1 s2 s3 s4 s5 s6 z7 m) : ∃ (r6 r7 : Int32) (M : Int) (mn : Md), (∀ Q : Int32 → Prop, Q r6  → wp_X6_letter Q s2 x1 x2) ∧ (∀ Q : Int32 → Prop, Q r7 → wp_X7_letter Q m x1 x2) ∧ mn = m ∧ JJ M s1 s2 s3 s4 s5 s6 z7 mn := by
  have hJ0 := hJ
  obtain ⟨⟨k1, ⟨R, W, k2⟩, ⟨R3, W3, k3⟩, k4, k5, k6, k7⟩, ⟨R7, W7, D7, kM, kD⟩, hx, hRB, hRP, hRS⟩ := hJ
  obtain ⟨r6, _, v6, _⟩ := dt_X6_letter s2 x1 x2 (fun _ => True) (wq_X6_letter k2 (fun _ => trivial))
  obtain ⟨r7, _, v7, _⟩ := dt_X7_letter m x1 x2 (fun _ => True) (wq_X7_letter kM kD (fun _ => trivial))
  exact ⟨r6, r7, N, m, fun Q h => v6 (fun o => Q o) h, fun Q h => v7 (fun o => Q o) h, rfl, ⟨⟨k1, ⟨R, W, k2⟩, ⟨R3, W3, k3⟩, k4, k5, k6, k7⟩, ⟨R7, W7, D7, kM, kD⟩, hx, hRB, hRP, hRS⟩⟩
set_option maxHeartbeats 4000000 in
theorem pm_digest {s1 : Tp} {s2 s3 : Bd} {s4 : Mo} {s5 : Pg} {s6 : Pa} {z7 : Nat → Option Bd} {m : Md} {N : Int}  (hJ : JJ N s1 s2 s3 s4 s5 s6 z7 m) : ∃ (r6 r7 : Int64) (M : Int) (mn : Md), (∀ Q : Int64 → Prop, Q r6  → wp_X6_digest Q s2) ∧ (∀ Q : Int64 → Prop, Q r7 → wp_X7_digest Q m ) ∧ mn = m ∧ JJ M s1 s2 s3 s4 s5 s6 z7 mn := by
  have hJ0 := hJ
  obtain ⟨⟨k1, ⟨R, W, k2⟩, ⟨R3, W3, k3⟩, k4, k5, k6, k7⟩, ⟨R7, W7, D7, kM, kD⟩, hx, hRB, hRP, hRS⟩ := hJ
  obtain ⟨r6, _, v6, _⟩ := dt_X6_digest s2 (fun _ => True) (wq_X6_digest k2 (fun _ => trivial))
  obtain ⟨r7, _, v7, _⟩ := dt_X7_digest m  (fun _ => True) (wq_X7_digest kM (fun _ => trivial))
  exact ⟨r6, r7, N, m, fun Q h => v6 (fun o => Q o) h, fun Q h => v7 (fun o => Q o) h, rfl, ⟨⟨k1, ⟨R, W, k2⟩, ⟨R3, W3, k3⟩, k4, k5, k6, k7⟩, ⟨R7, W7, D7, kM, kD⟩, hx, hRB, hRP, hRS⟩⟩
set_option maxHeartbeats 4000000 in
theorem pm_count {s1 : Tp} {s2 s3 : Bd} {s4 : Mo} {s5 : Pg} {s6 : Pa} {z7 : Nat → Option Bd} {m : Md} {N : Int} {x1 : Int32} (hJ : JJ N s1 s2 s3 s4 s5 s6 z7 m) : ∃ (r6 r7 : Int32) (M : Int) (s4n : Mo) (s6n : Pa) (mn : Md), (∀ Q : Int32 → Mo → Pa → Prop, Q r6 s4n s6n → wp_X6_count Q s1 s2 s4 s6 z7 x1) ∧ (∀ Q : Int32 → Md → Prop, Q r7 mn → wp_X7_count Q m x1) ∧ s6n.2 = s6.2 ∧ JJ M s1 s2 s3 s4n s5 s6n z7 mn := by
  have hJ0 := hJ
  obtain ⟨⟨k1, ⟨R, W, k2⟩, ⟨R3, W3, k3⟩, k4, k5, k6, k7⟩, ⟨R7, W7, D7, kM, kD⟩, hx, hRB, hRP, hRS⟩ := hJ
  obtain ⟨o, a6, v6, _⟩ := dt_X6_count s1 s2 s4 s6 z7 x1 (fun o => mo o.2.1 ∧ (pa o.2.2 ∧ o.2.2.2 = s6.2)) (wq_X6_count k1 k2 k4 k6 (fun r ua ub b0 b1 b2 => ⟨b0, ⟨b1, b2⟩⟩))
  obtain ⟨r6, s4n, s6n⟩ := o
  obtain ⟨g0, ⟨pa6, pe6⟩⟩ := a6
  obtain ⟨o7, a7, v7, _⟩ := dt_X7_count m x1 (fun o => ∃ M R W D9, mb M R W D9 o.2 ∧ (R ≤ 0 ∨ 0 < D9) ∧ M = N) (wq_X7_count kM kD (fun r u b0 => ⟨N, R7, W7, D7, b0, kD, rfl⟩))
  obtain ⟨o8, o8e, ht⟩ := fx_X7_count m x1 (fun x => x = o7) (v7 (fun x => x = o7) rfl)
  rw [o8e] at ht
  obtain ⟨r7, mn⟩ := o7
  obtain ⟨M7, R8, W8, D8, m7, d7, l7⟩ := a7
  have ht : mn.2.2.2 2 = m.2.2.2 2 := ht
  have m70 := m7
  have eM : M7 = N := by omega
  rw [eM] at m7
  have hxn : RX s1 mn := RX_k hx rfl (Int32.toInt_inj.mp (k1.1.trans m7.1.symm)) m7.1 m7.2.2.1 ht
  obtain ⟨ra, y_s4, ym, e6, e7, nb⟩ := sm_count (P6 := fun r a_s4 a_s6 => (r, a_s4, a_s6) = (r6, s4n, s6n)) (P7 := fun r u => (r, u) = (r7, mn)) hx hRB hRP hRS kM kD (v6 (fun x => x = (r6, s4n, s6n)) rfl) (v7 (fun x => x = (r7, mn)) rfl)
  have f7 : ra = r7 ∧ ym = mn := by simpa only [Prod.mk.injEq] using e7
  have f6 : ra = r6 ∧ y_s4 = s4n ∧ s6 = s6n := by simpa only [Prod.mk.injEq] using e6
  rw [f7.2] at nb
  have jB : RB s2 (mn.2.2.1 0) := RB_cg kM.2.2.2.2.1 (fun i hi => nb.1 i (by omega)) hRB
  have jP0 : RP s6 mn := RP_k hRP nb.2.1 nb.2.2.1
  have jS : RSh z7 mn := RSh_k hRS nb.2.2.2.2 nb.2.2.2.1
  have jP : RP s6n mn := by rw [← f6.2.2]; exact jP0
  exact ⟨r6, r7, N, s4n, s6n, mn, fun Q h => v6 (fun o => Q o.1 o.2.1 o.2.2) h, fun Q h => v7 (fun o => Q o.1 o.2) h, pe6, ⟨⟨k1, ⟨R, W, k2⟩, ⟨R3, W3, k3⟩, g0, k5, pa6, k7⟩, ⟨R8, W8, D8, m7, d7⟩, hxn, jB, jP, jS⟩⟩

/-! The law's calls by a relation of class and reference. -/
def c_W (q : Nat → ClassId) (h : Nat) (s1 : Tp) (s2 s3 : Bd) (s4 : Mo) (s5 : Pg) (s6 : Pa) (z7 : Nat → Option Bd) (w : va_W) : Prop := ∃ (a0 a1 a2 a3 a4 a5 : Nat → Nat) (p8 s8 p9 : Nat) (AA BB : Nat → Nat → Nat), h = a0 0 ∧ w = (cb_l q a0 a1 a2 a3 a4 a5 p8 s8 p9 AA BB s1 s2 s3 s4 s5 s6 z7).flatten
def m_W (q : Nat → ClassId) (h : Nat) (m : Md) (w : va_W) : Prop := ∃ b : Nat → Nat, h = b 0 ∧ w = md_v b q m
set_option maxHeartbeats 4000000 in
theorem pl_feed {l : Launch} {D : va_G} {q : Nat → ClassId} {h h2 : Nat} {w w2 : va_W} {s1 : Tp} {s2 s3 : Bd} {s4 : Mo} {s5 : Pg} {s6 : Pa} {z7 : Nat → Option Bd} {m : Md} {N : Int} {x1 : Int32} {x2 : Int32} {x3 : Int32} {x4 : Int32} {x5 : Int32} (hW : c_W q h s1 s2 s3 s4 s5 s6 z7 w) (hV : m_W q h2 m w2) (hJ : JJ N s1 s2 s3 s4 s5 s6 z7 m) : ∃ (r6 r7 : Int32) (M : Int) (s1n : Tp) (mn : Md), un_i l D q 5 yX6_feed cX6_feed 6 (some .int) ({ frames := 1, cells := 0, slots := 0, locals := 22 } : Room) h [.int x1, .int x2, .int x3, .int x4, .int x5] 0 0 w (fun r w3 => r = r6 ∧ c_W q h s1n s2 s3 s4 s5 s6 z7 w3) ∧ un_i l D q 6 yX7_feed cX7_feed 6 (some .int) ({ frames := 1, cells := 0, slots := 0, locals := 22 } : Room) h2 [.int x1, .int x2, .int x3, .int x4, .int x5] 0 0 w2 (fun r w3 => r = r7 ∧ m_W q h2 mn w3) ∧ JJ M s1n s2 s3 s4 s5 s6 z7 mn := by
  obtain ⟨a0, a1, a2, a3, a4, a5, p8, s8, p9, AA, BB, e1, e2⟩ := hW
  obtain ⟨b, f1, f2⟩ := hV
  subst e1
  subst f1
  obtain ⟨r6, r7, M, s1n, mn, v6, v7, hn⟩ := pm_feed (x1 := x1) (x2 := x2) (x3 := x3) (x4 := x4) (x5 := x5) hJ
  refine ⟨r6, r7, M, s1n, mn, ?_, ?_, hn⟩
  · intro sz
    refine ⟨_, _, [bd_w a2 q s2, bd_w a3 q s3, mo_w a4 q s4, pg_w a5 q s5, pa_o p8 p9 s6, pa_r p9 q 10 AA s6.2, ps_w q 10 AA s6.2, pa_r s8 q 2 BB z7, ps_w q 2 BB z7].flatten, _, _, _, c2_X6_feed (a1 := a1) (a2 := a2) (a3 := a3) (a4 := a4) (a5 := a5) (p8 := p8) (s8 := s8) (post := fun r y_s1 => r = r6 ∧ y_s1 = s1n) (v6 _ ⟨rfl, rfl⟩), rfl, ?_, fun r u hu => ?_⟩
    · rw [e2]
      have hp := bk_perm (L := cb_l q a0 a1 a2 a3 a4 a5 p8 s8 p9 AA BB s1 s2 s3 s4 s5 s6 z7) (L2 := [fo_w (a0 0) (a1 0) (a2 0) (a3 0) (a4 0) (a5 0) p8 s8, tp_w a1 q s1, bd_w a2 q s2, bd_w a3 q s3, mo_w a4 q s4, pg_w a5 q s5, pa_o p8 p9 s6, pa_r p9 q 10 AA s6.2, ps_w q 10 AA s6.2, pa_r s8 q 2 BB z7, ps_w q 2 BB z7]) [0, 1, 2, 3, 4, 5, 6, 7, 8, 9, 10] (show List.Perm _ (List.range 11) by decide) rfl rfl
      refine hp.trans ?_
      simp only [List.flatten_cons, List.flatten_nil, List.append_nil, List.append_assoc]
      exact List.Perm.refl _
    · obtain ⟨hr, g_s1⟩ := hu
      refine ⟨_, ⟨hr, a0, a1, a2, a3, a4, a5, p8, s8, p9, AA, BB, rfl, rfl⟩, ?_⟩
      rw [← g_s1]
      have hp := bk_perm (L := cb_l q a0 a1 a2 a3 a4 a5 p8 s8 p9 AA BB u s2 s3 s4 s5 s6 z7) (L2 := [fo_w (a0 0) (a1 0) (a2 0) (a3 0) (a4 0) (a5 0) p8 s8, tp_w a1 q u, bd_w a2 q s2, bd_w a3 q s3, mo_w a4 q s4, pg_w a5 q s5, pa_o p8 p9 s6, pa_r p9 q 10 AA s6.2, ps_w q 10 AA s6.2, pa_r s8 q 2 BB z7, ps_w q 2 BB z7]) [0, 1, 2, 3, 4, 5, 6, 7, 8, 9, 10] (show List.Perm _ (List.range 11) by decide) rfl rfl
      refine List.Perm.symm (hp.trans ?_)
      simp only [List.flatten_cons, List.flatten_nil, List.append_nil, List.append_assoc]
      exact List.Perm.refl _
  · intro sz
    refine ⟨_, _, [], _, _, _, c2_X7_feed (post := fun r u => r = r7 ∧ u = mn) (v7 _ ⟨rfl, rfl⟩), rfl, by rw [f2, List.append_nil], fun r u hu => ?_⟩
    exact ⟨_, ⟨hu.1, b, rfl, rfl⟩, by rw [List.append_nil, hu.2]⟩
set_option maxHeartbeats 4000000 in
theorem pl_end {l : Launch} {D : va_G} {q : Nat → ClassId} {h h2 : Nat} {w w2 : va_W} {s1 : Tp} {s2 s3 : Bd} {s4 : Mo} {s5 : Pg} {s6 : Pa} {z7 : Nat → Option Bd} {m : Md} {N : Int} {x1 : Int32} (hW : c_W q h s1 s2 s3 s4 s5 s6 z7 w) (hV : m_W q h2 m w2) (hJ : JJ N s1 s2 s3 s4 s5 s6 z7 m) : ∃ (r6 r7 : Int32) (M : Int) (s1n : Tp) (mn : Md), un_i l D q 5 yX6_end cX6_end 2 (some .int) ({ frames := 0, cells := 0, slots := 0, locals := 0 } : Room) h [.int x1] 0 0 w (fun r w3 => r = r6 ∧ c_W q h s1n s2 s3 s4 s5 s6 z7 w3) ∧ un_i l D q 6 yX7_end cX7_end 2 (some .int) ({ frames := 1, cells := 0, slots := 0, locals := 25 } : Room) h2 [.int x1] 0 0 w2 (fun r w3 => r = r7 ∧ m_W q h2 mn w3) ∧ JJ M s1n s2 s3 s4 s5 s6 z7 mn := by
  obtain ⟨a0, a1, a2, a3, a4, a5, p8, s8, p9, AA, BB, e1, e2⟩ := hW
  obtain ⟨b, f1, f2⟩ := hV
  subst e1
  subst f1
  obtain ⟨r6, r7, M, s1n, mn, v6, v7, hn⟩ := pm_end (x1 := x1) hJ
  refine ⟨r6, r7, M, s1n, mn, ?_, ?_, hn⟩
  · intro sz
    refine ⟨_, _, [bd_w a2 q s2, bd_w a3 q s3, mo_w a4 q s4, pg_w a5 q s5, pa_o p8 p9 s6, pa_r p9 q 10 AA s6.2, ps_w q 10 AA s6.2, pa_r s8 q 2 BB z7, ps_w q 2 BB z7].flatten, _, _, _, c2_X6_end (a1 := a1) (a2 := a2) (a3 := a3) (a4 := a4) (a5 := a5) (p8 := p8) (s8 := s8) (post := fun r y_s1 => r = r6 ∧ y_s1 = s1n) (v6 _ ⟨rfl, rfl⟩), rfl, ?_, fun r u hu => ?_⟩
    · rw [e2]
      have hp := bk_perm (L := cb_l q a0 a1 a2 a3 a4 a5 p8 s8 p9 AA BB s1 s2 s3 s4 s5 s6 z7) (L2 := [fo_w (a0 0) (a1 0) (a2 0) (a3 0) (a4 0) (a5 0) p8 s8, tp_w a1 q s1, bd_w a2 q s2, bd_w a3 q s3, mo_w a4 q s4, pg_w a5 q s5, pa_o p8 p9 s6, pa_r p9 q 10 AA s6.2, ps_w q 10 AA s6.2, pa_r s8 q 2 BB z7, ps_w q 2 BB z7]) [0, 1, 2, 3, 4, 5, 6, 7, 8, 9, 10] (show List.Perm _ (List.range 11) by decide) rfl rfl
      refine hp.trans ?_
      simp only [List.flatten_cons, List.flatten_nil, List.append_nil, List.append_assoc]
      exact List.Perm.refl _
    · obtain ⟨hr, g_s1⟩ := hu
      refine ⟨_, ⟨hr, a0, a1, a2, a3, a4, a5, p8, s8, p9, AA, BB, rfl, rfl⟩, ?_⟩
      rw [← g_s1]
      have hp := bk_perm (L := cb_l q a0 a1 a2 a3 a4 a5 p8 s8 p9 AA BB u s2 s3 s4 s5 s6 z7) (L2 := [fo_w (a0 0) (a1 0) (a2 0) (a3 0) (a4 0) (a5 0) p8 s8, tp_w a1 q u, bd_w a2 q s2, bd_w a3 q s3, mo_w a4 q s4, pg_w a5 q s5, pa_o p8 p9 s6, pa_r p9 q 10 AA s6.2, ps_w q 10 AA s6.2, pa_r s8 q 2 BB z7, ps_w q 2 BB z7]) [0, 1, 2, 3, 4, 5, 6, 7, 8, 9, 10] (show List.Perm _ (List.range 11) by decide) rfl rfl
      refine List.Perm.symm (hp.trans ?_)
      simp only [List.flatten_cons, List.flatten_nil, List.append_nil, List.append_assoc]
      exact List.Perm.refl _
  · intro sz
    refine ⟨_, _, [], _, _, _, c2_X7_end (post := fun r u => r = r7 ∧ u = mn) (v7 _ ⟨rfl, rfl⟩), rfl, by rw [f2, List.append_nil], fun r u hu => ?_⟩
    exact ⟨_, ⟨hu.1, b, rfl, rfl⟩, by rw [List.append_nil, hu.2]⟩
set_option maxHeartbeats 4000000 in
theorem pl_tell {l : Launch} {D : va_G} {q : Nat → ClassId} {h h2 : Nat} {w w2 : va_W} {s1 : Tp} {s2 s3 : Bd} {s4 : Mo} {s5 : Pg} {s6 : Pa} {z7 : Nat → Option Bd} {m : Md} {N : Int}  (hW : c_W q h s1 s2 s3 s4 s5 s6 z7 w) (hV : m_W q h2 m w2) (hJ : JJ N s1 s2 s3 s4 s5 s6 z7 m) : ∃ (r6 r7 : Int32) (M : Int) (s1n : Tp) (s2n : Bd) (s3n : Bd) (s6n : Pa) (mn : Md), un_i l D q 5 yX6_tell cX6_tell 1 (some .int) ({ frames := 10, cells := 1, slots := 6400, locals := 215 } : Room) h [] 1 6400 w (fun r w3 => r = r6 ∧ c_W q h s1n s2n s3n s4 s5 s6n z7 w3) ∧ un_i l D q 6 yX7_tell cX7_tell 2 (some .int) ({ frames := 8, cells := 0, slots := 0, locals := 171 } : Room) h2 [] 0 0 w2 (fun r w3 => r = r7 ∧ m_W q h2 mn w3) ∧ s6n.2 = s6.2 ∧ JJ M s1n s2n s3n s4 s5 s6n z7 mn := by
  obtain ⟨a0, a1, a2, a3, a4, a5, p8, s8, p9, AA, BB, e1, e2⟩ := hW
  obtain ⟨b, f1, f2⟩ := hV
  subst e1
  subst f1
  obtain ⟨r6, r7, M, s1n, s2n, s3n, s6n, mn, v6, v7, hn⟩ := pm_tell  hJ
  refine ⟨r6, r7, M, s1n, s2n, s3n, s6n, mn, ?_, ?_, hn⟩
  · intro sz
    refine ⟨_, _, [mo_w a4 q s4, pg_w a5 q s5, pa_r p9 q 10 AA s6.2, ps_w q 10 AA s6.2, pa_r s8 q 2 BB z7, ps_w q 2 BB z7].flatten, _, _, _, c2_X6_tell (a1 := a1) (a2 := a2) (a3 := a3) (a4 := a4) (a5 := a5) (p8 := p8) (s8 := s8) (p9 := p9) (AA := AA) (post := fun r y_s1 y_s2 y_s3 y_s6 => r = r6 ∧ y_s1 = s1n ∧ y_s2 = s2n ∧ y_s3 = s3n ∧ y_s6 = s6n) (v6 _ ⟨rfl, rfl, rfl, rfl, rfl⟩), rfl, ?_, fun r u hu => ?_⟩
    · rw [e2]
      have hp := bk_perm (L := cb_l q a0 a1 a2 a3 a4 a5 p8 s8 p9 AA BB s1 s2 s3 s4 s5 s6 z7) (L2 := [fo_w (a0 0) (a1 0) (a2 0) (a3 0) (a4 0) (a5 0) p8 s8, tp_w a1 q s1, bd_w a2 q s2, bd_w a3 q s3, pa_o p8 p9 s6, mo_w a4 q s4, pg_w a5 q s5, pa_r p9 q 10 AA s6.2, ps_w q 10 AA s6.2, pa_r s8 q 2 BB z7, ps_w q 2 BB z7]) [0, 1, 2, 3, 6, 4, 5, 7, 8, 9, 10] (show List.Perm _ (List.range 11) by decide) rfl rfl
      refine hp.trans ?_
      simp only [List.flatten_cons, List.flatten_nil, List.append_nil, List.append_assoc]
      exact List.Perm.refl _
    · obtain ⟨hr, g_s1, g_s2, g_s3, g_s6⟩ := hu
      refine ⟨_, ⟨hr, a0, a1, (va_up a2 12 u.1), a3, a4, a5, p8, s8, p9, AA, BB, rfl, rfl⟩, ?_⟩
      rw [← g_s1, ← g_s2, ← g_s3, ← g_s6]
      have hp := bk_perm (L := cb_l q a0 a1 (va_up a2 12 u.1) a3 a4 a5 p8 s8 p9 AA BB u.2.1 u.2.2.1 u.2.2.2.1 s4 s5 u.2.2.2.2 z7) (L2 := [fo_w (a0 0) (a1 0) (a2 0) (a3 0) (a4 0) (a5 0) p8 s8, tp_w a1 q u.2.1, bd_w (va_up a2 12 u.1) q u.2.2.1, bd_w a3 q u.2.2.2.1, pa_o p8 p9 u.2.2.2.2, mo_w a4 q s4, pg_w a5 q s5, pa_r p9 q 10 AA u.2.2.2.2.2, ps_w q 10 AA u.2.2.2.2.2, pa_r s8 q 2 BB z7, ps_w q 2 BB z7]) [0, 1, 2, 3, 6, 4, 5, 7, 8, 9, 10] (show List.Perm _ (List.range 11) by decide) rfl rfl
      refine List.Perm.symm (hp.trans ?_)
      simp only [List.flatten_cons, List.flatten_nil, List.append_nil, List.append_assoc]
      rw [show u.2.2.2.2.2 = s6.2 from (congrArg Prod.snd g_s6).trans hn.1]
  · intro sz
    refine ⟨_, _, [], _, _, _, c2_X7_tell (post := fun r u => r = r7 ∧ u = mn) (v7 _ ⟨rfl, rfl⟩), rfl, by rw [f2, List.append_nil], fun r u hu => ?_⟩
    exact ⟨_, ⟨hu.1, b, rfl, rfl⟩, by rw [List.append_nil, hu.2]⟩
set_option maxHeartbeats 4000000 in
theorem pl_row {l : Launch} {D : va_G} {q : Nat → ClassId} {h h2 : Nat} {w w2 : va_W} {s1 : Tp} {s2 s3 : Bd} {s4 : Mo} {s5 : Pg} {s6 : Pa} {z7 : Nat → Option Bd} {m : Md} {N : Int} {x1 : Int32} (hW : c_W q h s1 s2 s3 s4 s5 s6 z7 w) (hV : m_W q h2 m w2) (hJ : JJ N s1 s2 s3 s4 s5 s6 z7 m) : ∃ (r6 r7 : Int32) (M : Int) (s1n : Tp) (s2n : Bd) (s6n : Pa) (mn : Md), un_i l D q 5 yX6_row cX6_row 3 (some .int) ({ frames := 4, cells := 14, slots := 6906, locals := 146 } : Room) h [.int x1] 14 6906 w (fun r w3 => r = r6 ∧ c_W q h s1n s2n s3 s4 s5 s6n z7 w3) ∧ un_i l D q 6 yX7_row cX7_row 3 (some .int) ({ frames := 4, cells := 0, slots := 0, locals := 95 } : Room) h2 [.int x1] 0 0 w2 (fun r w3 => r = r7 ∧ m_W q h2 mn w3) ∧ JJ M s1n s2n s3 s4 s5 s6n z7 mn := by
  obtain ⟨a0, a1, a2, a3, a4, a5, p8, s8, p9, AA, BB, e1, e2⟩ := hW
  obtain ⟨b, f1, f2⟩ := hV
  subst e1
  subst f1
  obtain ⟨r6, r7, M, s1n, s2n, s6n, mn, v6, v7, hn⟩ := pm_row (x1 := x1) hJ
  refine ⟨r6, r7, M, s1n, s2n, s6n, mn, ?_, ?_, hn⟩
  · intro sz
    refine ⟨_, _, [bd_w a3 q s3, mo_w a4 q s4, pg_w a5 q s5, pa_r s8 q 2 BB z7, ps_w q 2 BB z7].flatten, _, _, _, c2_X6_row (a1 := a1) (a2 := a2) (a3 := a3) (a4 := a4) (a5 := a5) (p8 := p8) (s8 := s8) (p9 := p9) (AA := AA) (post := fun r y_s1 y_s2 y_s6 => r = r6 ∧ y_s1 = s1n ∧ y_s2 = s2n ∧ y_s6 = s6n) (v6 _ ⟨rfl, rfl, rfl, rfl⟩), rfl, ?_, fun r u hu => ?_⟩
    · rw [e2]
      have hp := bk_perm (L := cb_l q a0 a1 a2 a3 a4 a5 p8 s8 p9 AA BB s1 s2 s3 s4 s5 s6 z7) (L2 := [fo_w (a0 0) (a1 0) (a2 0) (a3 0) (a4 0) (a5 0) p8 s8, tp_w a1 q s1, bd_w a2 q s2, pa_o p8 p9 s6, pa_r p9 q 10 AA s6.2, ps_w q 10 AA s6.2, bd_w a3 q s3, mo_w a4 q s4, pg_w a5 q s5, pa_r s8 q 2 BB z7, ps_w q 2 BB z7]) [0, 1, 2, 6, 7, 8, 3, 4, 5, 9, 10] (show List.Perm _ (List.range 11) by decide) rfl rfl
      refine hp.trans ?_
      simp only [List.flatten_cons, List.flatten_nil, List.append_nil, List.append_assoc]
      exact List.Perm.refl _
    · obtain ⟨hr, g_s1, g_s2, g_s6⟩ := hu
      refine ⟨_, ⟨hr, a0, a1, a2, a3, a4, a5, p8, s8, p9, u.1, BB, rfl, rfl⟩, ?_⟩
      rw [← g_s1, ← g_s2, ← g_s6]
      have hp := bk_perm (L := cb_l q a0 a1 a2 a3 a4 a5 p8 s8 p9 u.1 BB u.2.1 u.2.2.1 s3 s4 s5 u.2.2.2 z7) (L2 := [fo_w (a0 0) (a1 0) (a2 0) (a3 0) (a4 0) (a5 0) p8 s8, tp_w a1 q u.2.1, bd_w a2 q u.2.2.1, pa_o p8 p9 u.2.2.2, pa_r p9 q 10 u.1 u.2.2.2.2, ps_w q 10 u.1 u.2.2.2.2, bd_w a3 q s3, mo_w a4 q s4, pg_w a5 q s5, pa_r s8 q 2 BB z7, ps_w q 2 BB z7]) [0, 1, 2, 6, 7, 8, 3, 4, 5, 9, 10] (show List.Perm _ (List.range 11) by decide) rfl rfl
      refine List.Perm.symm (hp.trans ?_)
      simp only [List.flatten_cons, List.flatten_nil, List.append_nil, List.append_assoc]
      exact List.Perm.refl _
  · intro sz
    refine ⟨_, _, [], _, _, _, c2_X7_row (post := fun r u => r = r7 ∧ u = mn) (v7 _ ⟨rfl, rfl⟩), rfl, by rw [f2, List.append_nil], fun r u hu => ?_⟩
    exact ⟨_, ⟨hu.1, b, rfl, rfl⟩, by rw [List.append_nil, hu.2]⟩
set_option maxHeartbeats 4000000 in
theorem pl_scroll {l : Launch} {D : va_G} {q : Nat → ClassId} {h h2 : Nat} {w w2 : va_W} {s1 : Tp} {s2 s3 : Bd} {s4 : Mo} {s5 : Pg} {s6 : Pa} {z7 : Nat → Option Bd} {m : Md} {N : Int}  (hW : c_W q h s1 s2 s3 s4 s5 s6 z7 w) (hV : m_W q h2 m w2) (hJ : JJ N s1 s2 s3 s4 s5 s6 z7 m) : ∃ (r6 r7 : Int32) (M : Int) (s1n : Tp) (s2n : Bd) (s6n : Pa) (mn : Md), un_i l D q 5 yX6_scroll cX6_scroll 2 (some .int) ({ frames := 4, cells := 14, slots := 6906, locals := 146 } : Room) h [] 14 6906 w (fun r w3 => r = r6 ∧ c_W q h s1n s2n s3 s4 s5 s6n z7 w3) ∧ un_i l D q 6 yX7_scroll cX7_scroll 2 (some .int) ({ frames := 5, cells := 0, slots := 0, locals := 120 } : Room) h2 [] 0 0 w2 (fun r w3 => r = r7 ∧ m_W q h2 mn w3) ∧ JJ M s1n s2n s3 s4 s5 s6n z7 mn := by
  obtain ⟨a0, a1, a2, a3, a4, a5, p8, s8, p9, AA, BB, e1, e2⟩ := hW
  obtain ⟨b, f1, f2⟩ := hV
  subst e1
  subst f1
  obtain ⟨r6, r7, M, s1n, s2n, s6n, mn, v6, v7, hn⟩ := pm_scroll  hJ
  refine ⟨r6, r7, M, s1n, s2n, s6n, mn, ?_, ?_, hn⟩
  · intro sz
    refine ⟨_, _, [bd_w a3 q s3, mo_w a4 q s4, pg_w a5 q s5, pa_r s8 q 2 BB z7, ps_w q 2 BB z7].flatten, _, _, _, c2_X6_scroll (a1 := a1) (a2 := a2) (a3 := a3) (a4 := a4) (a5 := a5) (p8 := p8) (s8 := s8) (p9 := p9) (AA := AA) (post := fun r y_s1 y_s2 y_s6 => r = r6 ∧ y_s1 = s1n ∧ y_s2 = s2n ∧ y_s6 = s6n) (v6 _ ⟨rfl, rfl, rfl, rfl⟩), rfl, ?_, fun r u hu => ?_⟩
    · rw [e2]
      have hp := bk_perm (L := cb_l q a0 a1 a2 a3 a4 a5 p8 s8 p9 AA BB s1 s2 s3 s4 s5 s6 z7) (L2 := [fo_w (a0 0) (a1 0) (a2 0) (a3 0) (a4 0) (a5 0) p8 s8, tp_w a1 q s1, bd_w a2 q s2, pa_o p8 p9 s6, pa_r p9 q 10 AA s6.2, ps_w q 10 AA s6.2, bd_w a3 q s3, mo_w a4 q s4, pg_w a5 q s5, pa_r s8 q 2 BB z7, ps_w q 2 BB z7]) [0, 1, 2, 6, 7, 8, 3, 4, 5, 9, 10] (show List.Perm _ (List.range 11) by decide) rfl rfl
      refine hp.trans ?_
      simp only [List.flatten_cons, List.flatten_nil, List.append_nil, List.append_assoc]
      exact List.Perm.refl _
    · obtain ⟨hr, g_s1, g_s2, g_s6⟩ := hu
      refine ⟨_, ⟨hr, a0, a1, a2, a3, a4, a5, p8, s8, p9, u.1, BB, rfl, rfl⟩, ?_⟩
      rw [← g_s1, ← g_s2, ← g_s6]
      have hp := bk_perm (L := cb_l q a0 a1 a2 a3 a4 a5 p8 s8 p9 u.1 BB u.2.1 u.2.2.1 s3 s4 s5 u.2.2.2 z7) (L2 := [fo_w (a0 0) (a1 0) (a2 0) (a3 0) (a4 0) (a5 0) p8 s8, tp_w a1 q u.2.1, bd_w a2 q u.2.2.1, pa_o p8 p9 u.2.2.2, pa_r p9 q 10 u.1 u.2.2.2.2, ps_w q 10 u.1 u.2.2.2.2, bd_w a3 q s3, mo_w a4 q s4, pg_w a5 q s5, pa_r s8 q 2 BB z7, ps_w q 2 BB z7]) [0, 1, 2, 6, 7, 8, 3, 4, 5, 9, 10] (show List.Perm _ (List.range 11) by decide) rfl rfl
      refine List.Perm.symm (hp.trans ?_)
      simp only [List.flatten_cons, List.flatten_nil, List.append_nil, List.append_assoc]
      exact List.Perm.refl _
  · intro sz
    refine ⟨_, _, [], _, _, _, c2_X7_scroll (post := fun r u => r = r7 ∧ u = mn) (v7 _ ⟨rfl, rfl⟩), rfl, by rw [f2, List.append_nil], fun r u hu => ?_⟩
    exact ⟨_, ⟨hu.1, b, rfl, rfl⟩, by rw [List.append_nil, hu.2]⟩
set_option maxHeartbeats 4000000 in
theorem pl_tick {l : Launch} {D : va_G} {q : Nat → ClassId} {h h2 : Nat} {w w2 : va_W} {s1 : Tp} {s2 s3 : Bd} {s4 : Mo} {s5 : Pg} {s6 : Pa} {z7 : Nat → Option Bd} {m : Md} {N : Int} {x1 : Int32} (hW : c_W q h s1 s2 s3 s4 s5 s6 z7 w) (hV : m_W q h2 m w2) (hJ : JJ N s1 s2 s3 s4 s5 s6 z7 m) : ∃ (r6 r7 : Int32) (M : Int) (s2n : Bd) (s4n : Mo) (s6n : Pa) (mn : Md), un_i l D q 5 yX6_tick cX6_tick 2 (some .int) ({ frames := 4, cells := 14, slots := 6906, locals := 146 } : Room) h [.int x1] 14 6906 w (fun r w3 => r = r6 ∧ c_W q h s1 s2n s3 s4n s5 s6n z7 w3) ∧ un_i l D q 6 yX7_tick cX7_tick 4 (some .int) ({ frames := 5, cells := 0, slots := 0, locals := 110 } : Room) h2 [.int x1] 0 0 w2 (fun r w3 => r = r7 ∧ m_W q h2 mn w3) ∧ JJ M s1 s2n s3 s4n s5 s6n z7 mn := by
  obtain ⟨a0, a1, a2, a3, a4, a5, p8, s8, p9, AA, BB, e1, e2⟩ := hW
  obtain ⟨b, f1, f2⟩ := hV
  subst e1
  subst f1
  obtain ⟨r6, r7, M, s2n, s4n, s6n, mn, v6, v7, hn⟩ := pm_tick (x1 := x1) hJ
  refine ⟨r6, r7, M, s2n, s4n, s6n, mn, ?_, ?_, hn⟩
  · intro sz
    refine ⟨_, _, [tp_w a1 q s1, bd_w a3 q s3, pg_w a5 q s5, pa_r s8 q 2 BB z7, ps_w q 2 BB z7].flatten, _, _, _, c2_X6_tick (a1 := a1) (a2 := a2) (a3 := a3) (a4 := a4) (a5 := a5) (p8 := p8) (s8 := s8) (p9 := p9) (AA := AA) (post := fun r y_s2 y_s4 y_s6 => r = r6 ∧ y_s2 = s2n ∧ y_s4 = s4n ∧ y_s6 = s6n) (v6 _ ⟨rfl, rfl, rfl, rfl⟩), rfl, ?_, fun r u hu => ?_⟩
    · rw [e2]
      have hp := bk_perm (L := cb_l q a0 a1 a2 a3 a4 a5 p8 s8 p9 AA BB s1 s2 s3 s4 s5 s6 z7) (L2 := [fo_w (a0 0) (a1 0) (a2 0) (a3 0) (a4 0) (a5 0) p8 s8, bd_w a2 q s2, mo_w a4 q s4, pa_o p8 p9 s6, pa_r p9 q 10 AA s6.2, ps_w q 10 AA s6.2, tp_w a1 q s1, bd_w a3 q s3, pg_w a5 q s5, pa_r s8 q 2 BB z7, ps_w q 2 BB z7]) [0, 2, 4, 6, 7, 8, 1, 3, 5, 9, 10] (show List.Perm _ (List.range 11) by decide) rfl rfl
      refine hp.trans ?_
      simp only [List.flatten_cons, List.flatten_nil, List.append_nil, List.append_assoc]
      exact List.Perm.refl _
    · obtain ⟨hr, g_s2, g_s4, g_s6⟩ := hu
      refine ⟨_, ⟨hr, a0, a1, a2, a3, a4, a5, p8, s8, p9, u.1, BB, rfl, rfl⟩, ?_⟩
      rw [← g_s2, ← g_s4, ← g_s6]
      have hp := bk_perm (L := cb_l q a0 a1 a2 a3 a4 a5 p8 s8 p9 u.1 BB s1 u.2.1 s3 u.2.2.1 s5 u.2.2.2 z7) (L2 := [fo_w (a0 0) (a1 0) (a2 0) (a3 0) (a4 0) (a5 0) p8 s8, bd_w a2 q u.2.1, mo_w a4 q u.2.2.1, pa_o p8 p9 u.2.2.2, pa_r p9 q 10 u.1 u.2.2.2.2, ps_w q 10 u.1 u.2.2.2.2, tp_w a1 q s1, bd_w a3 q s3, pg_w a5 q s5, pa_r s8 q 2 BB z7, ps_w q 2 BB z7]) [0, 2, 4, 6, 7, 8, 1, 3, 5, 9, 10] (show List.Perm _ (List.range 11) by decide) rfl rfl
      refine List.Perm.symm (hp.trans ?_)
      simp only [List.flatten_cons, List.flatten_nil, List.append_nil, List.append_assoc]
      exact List.Perm.refl _
  · intro sz
    refine ⟨_, _, [], _, _, _, c2_X7_tick (post := fun r u => r = r7 ∧ u = mn) (v7 _ ⟨rfl, rfl⟩), rfl, by rw [f2, List.append_nil], fun r u hu => ?_⟩
    exact ⟨_, ⟨hu.1, b, rfl, rfl⟩, by rw [List.append_nil, hu.2]⟩
set_option maxHeartbeats 4000000 in
theorem pl_settle {l : Launch} {D : va_G} {q : Nat → ClassId} {h h2 : Nat} {w w2 : va_W} {s1 : Tp} {s2 s3 : Bd} {s4 : Mo} {s5 : Pg} {s6 : Pa} {z7 : Nat → Option Bd} {m : Md} {N : Int}  (hW : c_W q h s1 s2 s3 s4 s5 s6 z7 w) (hV : m_W q h2 m w2) (hJ : JJ N s1 s2 s3 s4 s5 s6 z7 m) : ∃ (r6 r7 : Int32) (M : Int) (s2n : Bd) (s4n : Mo) (s6n : Pa) (mn : Md), un_i l D q 5 yX6_settle cX6_settle 1 (some .int) ({ frames := 4, cells := 14, slots := 6906, locals := 146 } : Room) h [] 14 6906 w (fun r w3 => r = r6 ∧ c_W q h s1 s2n s3 s4n s5 s6n z7 w3) ∧ un_i l D q 6 yX7_settle cX7_settle 1 (some .int) ({ frames := 6, cells := 0, slots := 0, locals := 131 } : Room) h2 [] 0 0 w2 (fun r w3 => r = r7 ∧ m_W q h2 mn w3) ∧ JJ M s1 s2n s3 s4n s5 s6n z7 mn := by
  obtain ⟨a0, a1, a2, a3, a4, a5, p8, s8, p9, AA, BB, e1, e2⟩ := hW
  obtain ⟨b, f1, f2⟩ := hV
  subst e1
  subst f1
  obtain ⟨r6, r7, M, s2n, s4n, s6n, mn, v6, v7, hn⟩ := pm_settle  hJ
  refine ⟨r6, r7, M, s2n, s4n, s6n, mn, ?_, ?_, hn⟩
  · intro sz
    refine ⟨_, _, [tp_w a1 q s1, bd_w a3 q s3, pg_w a5 q s5, pa_r s8 q 2 BB z7, ps_w q 2 BB z7].flatten, _, _, _, c2_X6_settle (a1 := a1) (a2 := a2) (a3 := a3) (a4 := a4) (a5 := a5) (p8 := p8) (s8 := s8) (p9 := p9) (AA := AA) (post := fun r y_s2 y_s4 y_s6 => r = r6 ∧ y_s2 = s2n ∧ y_s4 = s4n ∧ y_s6 = s6n) (v6 _ ⟨rfl, rfl, rfl, rfl⟩), rfl, ?_, fun r u hu => ?_⟩
    · rw [e2]
      have hp := bk_perm (L := cb_l q a0 a1 a2 a3 a4 a5 p8 s8 p9 AA BB s1 s2 s3 s4 s5 s6 z7) (L2 := [fo_w (a0 0) (a1 0) (a2 0) (a3 0) (a4 0) (a5 0) p8 s8, bd_w a2 q s2, mo_w a4 q s4, pa_o p8 p9 s6, pa_r p9 q 10 AA s6.2, ps_w q 10 AA s6.2, tp_w a1 q s1, bd_w a3 q s3, pg_w a5 q s5, pa_r s8 q 2 BB z7, ps_w q 2 BB z7]) [0, 2, 4, 6, 7, 8, 1, 3, 5, 9, 10] (show List.Perm _ (List.range 11) by decide) rfl rfl
      refine hp.trans ?_
      simp only [List.flatten_cons, List.flatten_nil, List.append_nil, List.append_assoc]
      exact List.Perm.refl _
    · obtain ⟨hr, g_s2, g_s4, g_s6⟩ := hu
      refine ⟨_, ⟨hr, a0, a1, a2, a3, a4, a5, p8, s8, p9, u.1, BB, rfl, rfl⟩, ?_⟩
      rw [← g_s2, ← g_s4, ← g_s6]
      have hp := bk_perm (L := cb_l q a0 a1 a2 a3 a4 a5 p8 s8 p9 u.1 BB s1 u.2.1 s3 u.2.2.1 s5 u.2.2.2 z7) (L2 := [fo_w (a0 0) (a1 0) (a2 0) (a3 0) (a4 0) (a5 0) p8 s8, bd_w a2 q u.2.1, mo_w a4 q u.2.2.1, pa_o p8 p9 u.2.2.2, pa_r p9 q 10 u.1 u.2.2.2.2, ps_w q 10 u.1 u.2.2.2.2, tp_w a1 q s1, bd_w a3 q s3, pg_w a5 q s5, pa_r s8 q 2 BB z7, ps_w q 2 BB z7]) [0, 2, 4, 6, 7, 8, 1, 3, 5, 9, 10] (show List.Perm _ (List.range 11) by decide) rfl rfl
      refine List.Perm.symm (hp.trans ?_)
      simp only [List.flatten_cons, List.flatten_nil, List.append_nil, List.append_assoc]
      exact List.Perm.refl _
  · intro sz
    refine ⟨_, _, [], _, _, _, c2_X7_settle (post := fun r u => r = r7 ∧ u = mn) (v7 _ ⟨rfl, rfl⟩), rfl, by rw [f2, List.append_nil], fun r u hu => ?_⟩
    exact ⟨_, ⟨hu.1, b, rfl, rfl⟩, by rw [List.append_nil, hu.2]⟩
set_option maxHeartbeats 4000000 in
theorem pl_lose {l : Launch} {D : va_G} {q : Nat → ClassId} {h h2 : Nat} {w w2 : va_W} {s1 : Tp} {s2 s3 : Bd} {s4 : Mo} {s5 : Pg} {s6 : Pa} {z7 : Nat → Option Bd} {m : Md} {N : Int} {x1 : Int32} {x2 : Int32} (hW : c_W q h s1 s2 s3 s4 s5 s6 z7 w) (hV : m_W q h2 m w2) (hJ : JJ N s1 s2 s3 s4 s5 s6 z7 m) : ∃ (r6 r7 : Int32) (M : Int) (s2n : Bd) (s6n : Pa) (mn : Md), un_i l D q 5 yX6_lose cX6_lose 4 (some .int) ({ frames := 4, cells := 14, slots := 6906, locals := 146 } : Room) h [.int x1, .int x2] 14 6906 w (fun r w3 => r = r6 ∧ c_W q h s1 s2n s3 s4 s5 s6n z7 w3) ∧ un_i l D q 6 yX7_lose cX7_lose 4 (some .int) ({ frames := 3, cells := 0, slots := 0, locals := 61 } : Room) h2 [.int x1, .int x2] 0 0 w2 (fun r w3 => r = r7 ∧ m_W q h2 mn w3) ∧ JJ M s1 s2n s3 s4 s5 s6n z7 mn := by
  obtain ⟨a0, a1, a2, a3, a4, a5, p8, s8, p9, AA, BB, e1, e2⟩ := hW
  obtain ⟨b, f1, f2⟩ := hV
  subst e1
  subst f1
  obtain ⟨r6, r7, M, s2n, s6n, mn, v6, v7, hn⟩ := pm_lose (x1 := x1) (x2 := x2) hJ
  refine ⟨r6, r7, M, s2n, s6n, mn, ?_, ?_, hn⟩
  · intro sz
    refine ⟨_, _, [tp_w a1 q s1, bd_w a3 q s3, mo_w a4 q s4, pg_w a5 q s5, pa_r s8 q 2 BB z7, ps_w q 2 BB z7].flatten, _, _, _, c2_X6_lose (a1 := a1) (a2 := a2) (a3 := a3) (a4 := a4) (a5 := a5) (p8 := p8) (s8 := s8) (p9 := p9) (AA := AA) (post := fun r y_s2 y_s6 => r = r6 ∧ y_s2 = s2n ∧ y_s6 = s6n) (v6 _ ⟨rfl, rfl, rfl⟩), rfl, ?_, fun r u hu => ?_⟩
    · rw [e2]
      have hp := bk_perm (L := cb_l q a0 a1 a2 a3 a4 a5 p8 s8 p9 AA BB s1 s2 s3 s4 s5 s6 z7) (L2 := [fo_w (a0 0) (a1 0) (a2 0) (a3 0) (a4 0) (a5 0) p8 s8, bd_w a2 q s2, pa_o p8 p9 s6, pa_r p9 q 10 AA s6.2, ps_w q 10 AA s6.2, tp_w a1 q s1, bd_w a3 q s3, mo_w a4 q s4, pg_w a5 q s5, pa_r s8 q 2 BB z7, ps_w q 2 BB z7]) [0, 2, 6, 7, 8, 1, 3, 4, 5, 9, 10] (show List.Perm _ (List.range 11) by decide) rfl rfl
      refine hp.trans ?_
      simp only [List.flatten_cons, List.flatten_nil, List.append_nil, List.append_assoc]
      exact List.Perm.refl _
    · obtain ⟨hr, g_s2, g_s6⟩ := hu
      refine ⟨_, ⟨hr, a0, a1, a2, a3, a4, a5, p8, s8, p9, u.1, BB, rfl, rfl⟩, ?_⟩
      rw [← g_s2, ← g_s6]
      have hp := bk_perm (L := cb_l q a0 a1 a2 a3 a4 a5 p8 s8 p9 u.1 BB s1 u.2.1 s3 s4 s5 u.2.2 z7) (L2 := [fo_w (a0 0) (a1 0) (a2 0) (a3 0) (a4 0) (a5 0) p8 s8, bd_w a2 q u.2.1, pa_o p8 p9 u.2.2, pa_r p9 q 10 u.1 u.2.2.2, ps_w q 10 u.1 u.2.2.2, tp_w a1 q s1, bd_w a3 q s3, mo_w a4 q s4, pg_w a5 q s5, pa_r s8 q 2 BB z7, ps_w q 2 BB z7]) [0, 2, 6, 7, 8, 1, 3, 4, 5, 9, 10] (show List.Perm _ (List.range 11) by decide) rfl rfl
      refine List.Perm.symm (hp.trans ?_)
      simp only [List.flatten_cons, List.flatten_nil, List.append_nil, List.append_assoc]
      exact List.Perm.refl _
  · intro sz
    refine ⟨_, _, [], _, _, _, c2_X7_lose (post := fun r u => r = r7 ∧ u = mn) (v7 _ ⟨rfl, rfl⟩), rfl, by rw [f2, List.append_nil], fun r u hu => ?_⟩
    exact ⟨_, ⟨hu.1, b, rfl, rfl⟩, by rw [List.append_nil, hu.2]⟩
set_option maxHeartbeats 4000000 in
theorem pl_wear {l : Launch} {D : va_G} {q : Nat → ClassId} {h h2 : Nat} {w w2 : va_W} {s1 : Tp} {s2 s3 : Bd} {s4 : Mo} {s5 : Pg} {s6 : Pa} {z7 : Nat → Option Bd} {m : Md} {N : Int} {x1 : Int32} {x2 : Int32} (hW : c_W q h s1 s2 s3 s4 s5 s6 z7 w) (hV : m_W q h2 m w2) (hJ : JJ N s1 s2 s3 s4 s5 s6 z7 m) : ∃ (r6 r7 : Int32) (M : Int) (s2n : Bd) (s6n : Pa) (mn : Md), un_i l D q 5 yX6_wear cX6_wear 3 (some .int) ({ frames := 4, cells := 14, slots := 6906, locals := 146 } : Room) h [.int x1, .int x2] 14 6906 w (fun r w3 => r = r6 ∧ c_W q h s1 s2n s3 s4 s5 s6n z7 w3) ∧ un_i l D q 6 yX7_wear cX7_wear 3 (some .int) ({ frames := 4, cells := 0, slots := 0, locals := 83 } : Room) h2 [.int x1, .int x2] 0 0 w2 (fun r w3 => r = r7 ∧ m_W q h2 mn w3) ∧ JJ M s1 s2n s3 s4 s5 s6n z7 mn := by
  obtain ⟨a0, a1, a2, a3, a4, a5, p8, s8, p9, AA, BB, e1, e2⟩ := hW
  obtain ⟨b, f1, f2⟩ := hV
  subst e1
  subst f1
  obtain ⟨r6, r7, M, s2n, s6n, mn, v6, v7, hn⟩ := pm_wear (x1 := x1) (x2 := x2) hJ
  refine ⟨r6, r7, M, s2n, s6n, mn, ?_, ?_, hn⟩
  · intro sz
    refine ⟨_, _, [tp_w a1 q s1, bd_w a3 q s3, mo_w a4 q s4, pg_w a5 q s5, pa_r s8 q 2 BB z7, ps_w q 2 BB z7].flatten, _, _, _, c2_X6_wear (a1 := a1) (a2 := a2) (a3 := a3) (a4 := a4) (a5 := a5) (p8 := p8) (s8 := s8) (p9 := p9) (AA := AA) (post := fun r y_s2 y_s6 => r = r6 ∧ y_s2 = s2n ∧ y_s6 = s6n) (v6 _ ⟨rfl, rfl, rfl⟩), rfl, ?_, fun r u hu => ?_⟩
    · rw [e2]
      have hp := bk_perm (L := cb_l q a0 a1 a2 a3 a4 a5 p8 s8 p9 AA BB s1 s2 s3 s4 s5 s6 z7) (L2 := [fo_w (a0 0) (a1 0) (a2 0) (a3 0) (a4 0) (a5 0) p8 s8, bd_w a2 q s2, pa_o p8 p9 s6, pa_r p9 q 10 AA s6.2, ps_w q 10 AA s6.2, tp_w a1 q s1, bd_w a3 q s3, mo_w a4 q s4, pg_w a5 q s5, pa_r s8 q 2 BB z7, ps_w q 2 BB z7]) [0, 2, 6, 7, 8, 1, 3, 4, 5, 9, 10] (show List.Perm _ (List.range 11) by decide) rfl rfl
      refine hp.trans ?_
      simp only [List.flatten_cons, List.flatten_nil, List.append_nil, List.append_assoc]
      exact List.Perm.refl _
    · obtain ⟨hr, g_s2, g_s6⟩ := hu
      refine ⟨_, ⟨hr, a0, a1, a2, a3, a4, a5, p8, s8, p9, u.1, BB, rfl, rfl⟩, ?_⟩
      rw [← g_s2, ← g_s6]
      have hp := bk_perm (L := cb_l q a0 a1 a2 a3 a4 a5 p8 s8 p9 u.1 BB s1 u.2.1 s3 s4 s5 u.2.2 z7) (L2 := [fo_w (a0 0) (a1 0) (a2 0) (a3 0) (a4 0) (a5 0) p8 s8, bd_w a2 q u.2.1, pa_o p8 p9 u.2.2, pa_r p9 q 10 u.1 u.2.2.2, ps_w q 10 u.1 u.2.2.2, tp_w a1 q s1, bd_w a3 q s3, mo_w a4 q s4, pg_w a5 q s5, pa_r s8 q 2 BB z7, ps_w q 2 BB z7]) [0, 2, 6, 7, 8, 1, 3, 4, 5, 9, 10] (show List.Perm _ (List.range 11) by decide) rfl rfl
      refine List.Perm.symm (hp.trans ?_)
      simp only [List.flatten_cons, List.flatten_nil, List.append_nil, List.append_assoc]
      exact List.Perm.refl _
  · intro sz
    refine ⟨_, _, [], _, _, _, c2_X7_wear (post := fun r u => r = r7 ∧ u = mn) (v7 _ ⟨rfl, rfl⟩), rfl, by rw [f2, List.append_nil], fun r u hu => ?_⟩
    exact ⟨_, ⟨hu.1, b, rfl, rfl⟩, by rw [List.append_nil, hu.2]⟩
set_option maxHeartbeats 4000000 in
theorem pl_mend {l : Launch} {D : va_G} {q : Nat → ClassId} {h h2 : Nat} {w w2 : va_W} {s1 : Tp} {s2 s3 : Bd} {s4 : Mo} {s5 : Pg} {s6 : Pa} {z7 : Nat → Option Bd} {m : Md} {N : Int} {x1 : Int32} {x2 : Int32} (hW : c_W q h s1 s2 s3 s4 s5 s6 z7 w) (hV : m_W q h2 m w2) (hJ : JJ N s1 s2 s3 s4 s5 s6 z7 m) : ∃ (r6 r7 : Int32) (M : Int) (s2n : Bd) (s6n : Pa) (mn : Md), un_i l D q 5 yX6_mend cX6_mend 3 (some .int) ({ frames := 4, cells := 14, slots := 6906, locals := 146 } : Room) h [.int x1, .int x2] 14 6906 w (fun r w3 => r = r6 ∧ c_W q h s1 s2n s3 s4 s5 s6n z7 w3) ∧ un_i l D q 6 yX7_mend cX7_mend 3 (some .int) ({ frames := 4, cells := 0, slots := 0, locals := 83 } : Room) h2 [.int x1, .int x2] 0 0 w2 (fun r w3 => r = r7 ∧ m_W q h2 mn w3) ∧ JJ M s1 s2n s3 s4 s5 s6n z7 mn := by
  obtain ⟨a0, a1, a2, a3, a4, a5, p8, s8, p9, AA, BB, e1, e2⟩ := hW
  obtain ⟨b, f1, f2⟩ := hV
  subst e1
  subst f1
  obtain ⟨r6, r7, M, s2n, s6n, mn, v6, v7, hn⟩ := pm_mend (x1 := x1) (x2 := x2) hJ
  refine ⟨r6, r7, M, s2n, s6n, mn, ?_, ?_, hn⟩
  · intro sz
    refine ⟨_, _, [tp_w a1 q s1, bd_w a3 q s3, mo_w a4 q s4, pg_w a5 q s5, pa_r s8 q 2 BB z7, ps_w q 2 BB z7].flatten, _, _, _, c2_X6_mend (a1 := a1) (a2 := a2) (a3 := a3) (a4 := a4) (a5 := a5) (p8 := p8) (s8 := s8) (p9 := p9) (AA := AA) (post := fun r y_s2 y_s6 => r = r6 ∧ y_s2 = s2n ∧ y_s6 = s6n) (v6 _ ⟨rfl, rfl, rfl⟩), rfl, ?_, fun r u hu => ?_⟩
    · rw [e2]
      have hp := bk_perm (L := cb_l q a0 a1 a2 a3 a4 a5 p8 s8 p9 AA BB s1 s2 s3 s4 s5 s6 z7) (L2 := [fo_w (a0 0) (a1 0) (a2 0) (a3 0) (a4 0) (a5 0) p8 s8, bd_w a2 q s2, pa_o p8 p9 s6, pa_r p9 q 10 AA s6.2, ps_w q 10 AA s6.2, tp_w a1 q s1, bd_w a3 q s3, mo_w a4 q s4, pg_w a5 q s5, pa_r s8 q 2 BB z7, ps_w q 2 BB z7]) [0, 2, 6, 7, 8, 1, 3, 4, 5, 9, 10] (show List.Perm _ (List.range 11) by decide) rfl rfl
      refine hp.trans ?_
      simp only [List.flatten_cons, List.flatten_nil, List.append_nil, List.append_assoc]
      exact List.Perm.refl _
    · obtain ⟨hr, g_s2, g_s6⟩ := hu
      refine ⟨_, ⟨hr, a0, a1, a2, a3, a4, a5, p8, s8, p9, u.1, BB, rfl, rfl⟩, ?_⟩
      rw [← g_s2, ← g_s6]
      have hp := bk_perm (L := cb_l q a0 a1 a2 a3 a4 a5 p8 s8 p9 u.1 BB s1 u.2.1 s3 s4 s5 u.2.2 z7) (L2 := [fo_w (a0 0) (a1 0) (a2 0) (a3 0) (a4 0) (a5 0) p8 s8, bd_w a2 q u.2.1, pa_o p8 p9 u.2.2, pa_r p9 q 10 u.1 u.2.2.2, ps_w q 10 u.1 u.2.2.2, tp_w a1 q s1, bd_w a3 q s3, mo_w a4 q s4, pg_w a5 q s5, pa_r s8 q 2 BB z7, ps_w q 2 BB z7]) [0, 2, 6, 7, 8, 1, 3, 4, 5, 9, 10] (show List.Perm _ (List.range 11) by decide) rfl rfl
      refine List.Perm.symm (hp.trans ?_)
      simp only [List.flatten_cons, List.flatten_nil, List.append_nil, List.append_assoc]
      exact List.Perm.refl _
  · intro sz
    refine ⟨_, _, [], _, _, _, c2_X7_mend (post := fun r u => r = r7 ∧ u = mn) (v7 _ ⟨rfl, rfl⟩), rfl, by rw [f2, List.append_nil], fun r u hu => ?_⟩
    exact ⟨_, ⟨hu.1, b, rfl, rfl⟩, by rw [List.append_nil, hu.2]⟩
set_option maxHeartbeats 4000000 in
theorem pl_limit {l : Launch} {D : va_G} {q : Nat → ClassId} {h h2 : Nat} {w w2 : va_W} {s1 : Tp} {s2 s3 : Bd} {s4 : Mo} {s5 : Pg} {s6 : Pa} {z7 : Nat → Option Bd} {m : Md} {N : Int} {x1 : Int32} (hW : c_W q h s1 s2 s3 s4 s5 s6 z7 w) (hV : m_W q h2 m w2) (hJ : JJ N s1 s2 s3 s4 s5 s6 z7 m) : ∃ (r6 r7 : Int32) (M : Int) (s2n : Bd) (s6n : Pa) (mn : Md), un_i l D q 5 yX6_limit cX6_limit 3 (some .int) ({ frames := 4, cells := 14, slots := 6906, locals := 146 } : Room) h [.int x1] 14 6906 w (fun r w3 => r = r6 ∧ c_W q h s1 s2n s3 s4 s5 s6n z7 w3) ∧ un_i l D q 6 yX7_limit cX7_limit 3 (some .int) ({ frames := 2, cells := 0, slots := 0, locals := 40 } : Room) h2 [.int x1] 0 0 w2 (fun r w3 => r = r7 ∧ m_W q h2 mn w3) ∧ JJ M s1 s2n s3 s4 s5 s6n z7 mn := by
  obtain ⟨a0, a1, a2, a3, a4, a5, p8, s8, p9, AA, BB, e1, e2⟩ := hW
  obtain ⟨b, f1, f2⟩ := hV
  subst e1
  subst f1
  obtain ⟨r6, r7, M, s2n, s6n, mn, v6, v7, hn⟩ := pm_limit (x1 := x1) hJ
  refine ⟨r6, r7, M, s2n, s6n, mn, ?_, ?_, hn⟩
  · intro sz
    refine ⟨_, _, [tp_w a1 q s1, bd_w a3 q s3, mo_w a4 q s4, pg_w a5 q s5, pa_r s8 q 2 BB z7, ps_w q 2 BB z7].flatten, _, _, _, c2_X6_limit (a1 := a1) (a2 := a2) (a3 := a3) (a4 := a4) (a5 := a5) (p8 := p8) (s8 := s8) (p9 := p9) (AA := AA) (post := fun r y_s2 y_s6 => r = r6 ∧ y_s2 = s2n ∧ y_s6 = s6n) (v6 _ ⟨rfl, rfl, rfl⟩), rfl, ?_, fun r u hu => ?_⟩
    · rw [e2]
      have hp := bk_perm (L := cb_l q a0 a1 a2 a3 a4 a5 p8 s8 p9 AA BB s1 s2 s3 s4 s5 s6 z7) (L2 := [fo_w (a0 0) (a1 0) (a2 0) (a3 0) (a4 0) (a5 0) p8 s8, bd_w a2 q s2, pa_o p8 p9 s6, pa_r p9 q 10 AA s6.2, ps_w q 10 AA s6.2, tp_w a1 q s1, bd_w a3 q s3, mo_w a4 q s4, pg_w a5 q s5, pa_r s8 q 2 BB z7, ps_w q 2 BB z7]) [0, 2, 6, 7, 8, 1, 3, 4, 5, 9, 10] (show List.Perm _ (List.range 11) by decide) rfl rfl
      refine hp.trans ?_
      simp only [List.flatten_cons, List.flatten_nil, List.append_nil, List.append_assoc]
      exact List.Perm.refl _
    · obtain ⟨hr, g_s2, g_s6⟩ := hu
      refine ⟨_, ⟨hr, a0, a1, a2, a3, a4, a5, p8, s8, p9, u.1, BB, rfl, rfl⟩, ?_⟩
      rw [← g_s2, ← g_s6]
      have hp := bk_perm (L := cb_l q a0 a1 a2 a3 a4 a5 p8 s8 p9 u.1 BB s1 u.2.1 s3 s4 s5 u.2.2 z7) (L2 := [fo_w (a0 0) (a1 0) (a2 0) (a3 0) (a4 0) (a5 0) p8 s8, bd_w a2 q u.2.1, pa_o p8 p9 u.2.2, pa_r p9 q 10 u.1 u.2.2.2, ps_w q 10 u.1 u.2.2.2, tp_w a1 q s1, bd_w a3 q s3, mo_w a4 q s4, pg_w a5 q s5, pa_r s8 q 2 BB z7, ps_w q 2 BB z7]) [0, 2, 6, 7, 8, 1, 3, 4, 5, 9, 10] (show List.Perm _ (List.range 11) by decide) rfl rfl
      refine List.Perm.symm (hp.trans ?_)
      simp only [List.flatten_cons, List.flatten_nil, List.append_nil, List.append_assoc]
      exact List.Perm.refl _
  · intro sz
    refine ⟨_, _, [], _, _, _, c2_X7_limit (post := fun r u => r = r7 ∧ u = mn) (v7 _ ⟨rfl, rfl⟩), rfl, by rw [f2, List.append_nil], fun r u hu => ?_⟩
    exact ⟨_, ⟨hu.1, b, rfl, rfl⟩, by rw [List.append_nil, hu.2]⟩
set_option maxHeartbeats 4000000 in
theorem pl_exchange {l : Launch} {D : va_G} {q : Nat → ClassId} {h h2 : Nat} {w w2 : va_W} {s1 : Tp} {s2 s3 : Bd} {s4 : Mo} {s5 : Pg} {s6 : Pa} {z7 : Nat → Option Bd} {m : Md} {N : Int} {x1 : Int32} {x2 : Int32} {x3 : Int32} (hW : c_W q h s1 s2 s3 s4 s5 s6 z7 w) (hV : m_W q h2 m w2) (hJ : JJ N s1 s2 s3 s4 s5 s6 z7 m) : ∃ (r6 r7 : Int32) (M : Int) (s2n : Bd) (s6n : Pa) (mn : Md), un_i l D q 5 yX6_exchange cX6_exchange 4 (some .int) ({ frames := 4, cells := 15, slots := 13306, locals := 146 } : Room) h [.int x1, .int x2, .int x3] 15 13306 w (fun r w3 => r = r6 ∧ c_W q h s1 s2n s3 s4 s5 s6n z7 w3) ∧ un_i l D q 6 yX7_exchange cX7_exchange 8 (some .int) ({ frames := 2, cells := 0, slots := 0, locals := 46 } : Room) h2 [.int x1, .int x2, .int x3] 0 0 w2 (fun r w3 => r = r7 ∧ m_W q h2 mn w3) ∧ JJ M s1 s2n s3 s4 s5 s6n z7 mn := by
  obtain ⟨a0, a1, a2, a3, a4, a5, p8, s8, p9, AA, BB, e1, e2⟩ := hW
  obtain ⟨b, f1, f2⟩ := hV
  subst e1
  subst f1
  obtain ⟨r6, r7, M, s2n, s6n, mn, v6, v7, hn⟩ := pm_exchange (x1 := x1) (x2 := x2) (x3 := x3) hJ
  refine ⟨r6, r7, M, s2n, s6n, mn, ?_, ?_, hn⟩
  · intro sz
    refine ⟨_, _, [tp_w a1 q s1, bd_w a3 q s3, mo_w a4 q s4, pg_w a5 q s5, pa_r s8 q 2 BB z7, ps_w q 2 BB z7].flatten, _, _, _, c2_X6_exchange (a1 := a1) (a2 := a2) (a3 := a3) (a4 := a4) (a5 := a5) (p8 := p8) (s8 := s8) (p9 := p9) (AA := AA) (post := fun r y_s2 y_s6 => r = r6 ∧ y_s2 = s2n ∧ y_s6 = s6n) (v6 _ ⟨rfl, rfl, rfl⟩), rfl, ?_, fun r u hu => ?_⟩
    · rw [e2]
      have hp := bk_perm (L := cb_l q a0 a1 a2 a3 a4 a5 p8 s8 p9 AA BB s1 s2 s3 s4 s5 s6 z7) (L2 := [fo_w (a0 0) (a1 0) (a2 0) (a3 0) (a4 0) (a5 0) p8 s8, bd_w a2 q s2, pa_o p8 p9 s6, pa_r p9 q 10 AA s6.2, ps_w q 10 AA s6.2, tp_w a1 q s1, bd_w a3 q s3, mo_w a4 q s4, pg_w a5 q s5, pa_r s8 q 2 BB z7, ps_w q 2 BB z7]) [0, 2, 6, 7, 8, 1, 3, 4, 5, 9, 10] (show List.Perm _ (List.range 11) by decide) rfl rfl
      refine hp.trans ?_
      simp only [List.flatten_cons, List.flatten_nil, List.append_nil, List.append_assoc]
      exact List.Perm.refl _
    · obtain ⟨hr, g_s2, g_s6⟩ := hu
      refine ⟨_, ⟨hr, a0, a1, (va_up a2 12 u.2.1), a3, a4, a5, p8, s8, p9, u.1, BB, rfl, rfl⟩, ?_⟩
      rw [← g_s2, ← g_s6]
      have hp := bk_perm (L := cb_l q a0 a1 (va_up a2 12 u.2.1) a3 a4 a5 p8 s8 p9 u.1 BB s1 u.2.2.1 s3 s4 s5 u.2.2.2 z7) (L2 := [fo_w (a0 0) (a1 0) (a2 0) (a3 0) (a4 0) (a5 0) p8 s8, bd_w (va_up a2 12 u.2.1) q u.2.2.1, pa_o p8 p9 u.2.2.2, pa_r p9 q 10 u.1 u.2.2.2.2, ps_w q 10 u.1 u.2.2.2.2, tp_w a1 q s1, bd_w a3 q s3, mo_w a4 q s4, pg_w a5 q s5, pa_r s8 q 2 BB z7, ps_w q 2 BB z7]) [0, 2, 6, 7, 8, 1, 3, 4, 5, 9, 10] (show List.Perm _ (List.range 11) by decide) rfl rfl
      refine List.Perm.symm (hp.trans ?_)
      simp only [List.flatten_cons, List.flatten_nil, List.append_nil, List.append_assoc]
      exact List.Perm.refl _
  · intro sz
    refine ⟨_, _, [], _, _, _, c2_X7_exchange (post := fun r u => r = r7 ∧ u = mn) (v7 _ ⟨rfl, rfl⟩), rfl, by rw [f2, List.append_nil], fun r u hu => ?_⟩
    exact ⟨_, ⟨hu.1, b, rfl, rfl⟩, by rw [List.append_nil, hu.2]⟩
set_option maxHeartbeats 4000000 in
theorem pl_run {l : Launch} {D : va_G} {q : Nat → ClassId} {h h2 : Nat} {w w2 : va_W} {s1 : Tp} {s2 s3 : Bd} {s4 : Mo} {s5 : Pg} {s6 : Pa} {z7 : Nat → Option Bd} {m : Md} {N : Int}  (hW : c_W q h s1 s2 s3 s4 s5 s6 z7 w) (hV : m_W q h2 m w2) (hJ : JJ N s1 s2 s3 s4 s5 s6 z7 m) : ∃ (r6 r7 : Int32) (M : Int) (s1n : Tp) (s2n : Bd) (s4n : Mo) (s5n : Pg) (s6n : Pa) (mn : Md), un_i l D q 5 yX6_run cX6_run 2 (some .int) ({ frames := 9, cells := 14, slots := 6906, locals := 192 } : Room) h [] 14 6906 w (fun r w3 => r = r6 ∧ c_W q h s1n s2n s3 s4n s5n s6n z7 w3) ∧ un_i l D q 6 yX7_run cX7_run 2 (some .int) ({ frames := 19, cells := 0, slots := 0, locals := 417 } : Room) h2 [] 0 0 w2 (fun r w3 => r = r7 ∧ m_W q h2 mn w3) ∧ JJ M s1n s2n s3 s4n s5n s6n z7 mn := by
  obtain ⟨a0, a1, a2, a3, a4, a5, p8, s8, p9, AA, BB, e1, e2⟩ := hW
  obtain ⟨b, f1, f2⟩ := hV
  subst e1
  subst f1
  obtain ⟨r6, r7, M, s1n, s2n, s4n, s5n, s6n, mn, v6, v7, hn⟩ := pm_run  hJ
  refine ⟨r6, r7, M, s1n, s2n, s4n, s5n, s6n, mn, ?_, ?_, hn⟩
  · intro sz
    refine ⟨_, _, [bd_w a3 q s3, pa_r s8 q 2 BB z7, ps_w q 2 BB z7].flatten, _, _, _, c2_X6_run (a1 := a1) (a2 := a2) (a3 := a3) (a4 := a4) (a5 := a5) (p8 := p8) (s8 := s8) (p9 := p9) (AA := AA) (post := fun r y_s1 y_s2 y_s4 y_s5 y_s6 => r = r6 ∧ y_s1 = s1n ∧ y_s2 = s2n ∧ y_s4 = s4n ∧ y_s5 = s5n ∧ y_s6 = s6n) (v6 _ ⟨rfl, rfl, rfl, rfl, rfl, rfl⟩), rfl, ?_, fun r u hu => ?_⟩
    · rw [e2]
      have hp := bk_perm (L := cb_l q a0 a1 a2 a3 a4 a5 p8 s8 p9 AA BB s1 s2 s3 s4 s5 s6 z7) (L2 := [fo_w (a0 0) (a1 0) (a2 0) (a3 0) (a4 0) (a5 0) p8 s8, tp_w a1 q s1, bd_w a2 q s2, mo_w a4 q s4, pg_w a5 q s5, pa_o p8 p9 s6, pa_r p9 q 10 AA s6.2, ps_w q 10 AA s6.2, bd_w a3 q s3, pa_r s8 q 2 BB z7, ps_w q 2 BB z7]) [0, 1, 2, 4, 5, 6, 7, 8, 3, 9, 10] (show List.Perm _ (List.range 11) by decide) rfl rfl
      refine hp.trans ?_
      simp only [List.flatten_cons, List.flatten_nil, List.append_nil, List.append_assoc]
      exact List.Perm.refl _
    · obtain ⟨hr, g_s1, g_s2, g_s4, g_s5, g_s6⟩ := hu
      refine ⟨_, ⟨hr, a0, a1, a2, a3, a4, a5, p8, s8, p9, u.1, BB, rfl, rfl⟩, ?_⟩
      rw [← g_s1, ← g_s2, ← g_s4, ← g_s5, ← g_s6]
      have hp := bk_perm (L := cb_l q a0 a1 a2 a3 a4 a5 p8 s8 p9 u.1 BB u.2.1 u.2.2.1 s3 u.2.2.2.1 u.2.2.2.2.1 u.2.2.2.2.2 z7) (L2 := [fo_w (a0 0) (a1 0) (a2 0) (a3 0) (a4 0) (a5 0) p8 s8, tp_w a1 q u.2.1, bd_w a2 q u.2.2.1, mo_w a4 q u.2.2.2.1, pg_w a5 q u.2.2.2.2.1, pa_o p8 p9 u.2.2.2.2.2, pa_r p9 q 10 u.1 u.2.2.2.2.2.2, ps_w q 10 u.1 u.2.2.2.2.2.2, bd_w a3 q s3, pa_r s8 q 2 BB z7, ps_w q 2 BB z7]) [0, 1, 2, 4, 5, 6, 7, 8, 3, 9, 10] (show List.Perm _ (List.range 11) by decide) rfl rfl
      refine List.Perm.symm (hp.trans ?_)
      simp only [List.flatten_cons, List.flatten_nil, List.append_nil, List.append_assoc]
      exact List.Perm.refl _
  · intro sz
    refine ⟨_, _, [], _, _, _, c2_X7_run (post := fun r u => r = r7 ∧ u = mn) (v7 _ ⟨rfl, rfl⟩), rfl, by rw [f2, List.append_nil], fun r u hu => ?_⟩
    exact ⟨_, ⟨hu.1, b, rfl, rfl⟩, by rw [List.append_nil, hu.2]⟩
set_option maxHeartbeats 4000000 in
theorem pl_undo {l : Launch} {D : va_G} {q : Nat → ClassId} {h h2 : Nat} {w w2 : va_W} {s1 : Tp} {s2 s3 : Bd} {s4 : Mo} {s5 : Pg} {s6 : Pa} {z7 : Nat → Option Bd} {m : Md} {N : Int}  (hW : c_W q h s1 s2 s3 s4 s5 s6 z7 w) (hV : m_W q h2 m w2) (hJ : JJ N s1 s2 s3 s4 s5 s6 z7 m) : ∃ (r6 r7 : Int32) (M : Int) (s2n : Bd) (s6n : Pa) (mn : Md), un_i l D q 5 yX6_undo cX6_undo 1 (some .int) ({ frames := 4, cells := 1, slots := 6400, locals := 146 } : Room) h [] 1 6400 w (fun r w3 => r = r6 ∧ c_W q h s1 s2n s3 s4 s5 s6n z7 w3) ∧ un_i l D q 6 yX7_undo cX7_undo 2 (some .int) ({ frames := 0, cells := 0, slots := 0, locals := 0 } : Room) h2 [] 0 0 w2 (fun r w3 => r = r7 ∧ m_W q h2 mn w3) ∧ JJ M s1 s2n s3 s4 s5 s6n z7 mn := by
  obtain ⟨a0, a1, a2, a3, a4, a5, p8, s8, p9, AA, BB, e1, e2⟩ := hW
  obtain ⟨b, f1, f2⟩ := hV
  subst e1
  subst f1
  obtain ⟨r6, r7, M, s2n, s6n, mn, v6, v7, hn⟩ := pm_undo  hJ
  refine ⟨r6, r7, M, s2n, s6n, mn, ?_, ?_, hn⟩
  · intro sz
    refine ⟨_, _, [tp_w a1 q s1, bd_w a3 q s3, mo_w a4 q s4, pg_w a5 q s5, pa_r s8 q 2 BB z7, ps_w q 2 BB z7].flatten, _, _, _, c2_X6_undo (a1 := a1) (a2 := a2) (a3 := a3) (a4 := a4) (a5 := a5) (p8 := p8) (s8 := s8) (p9 := p9) (AA := AA) (post := fun r y_s2 y_s6 => r = r6 ∧ y_s2 = s2n ∧ y_s6 = s6n) (v6 _ ⟨rfl, rfl, rfl⟩), rfl, ?_, fun r u hu => ?_⟩
    · rw [e2]
      have hp := bk_perm (L := cb_l q a0 a1 a2 a3 a4 a5 p8 s8 p9 AA BB s1 s2 s3 s4 s5 s6 z7) (L2 := [fo_w (a0 0) (a1 0) (a2 0) (a3 0) (a4 0) (a5 0) p8 s8, bd_w a2 q s2, pa_o p8 p9 s6, pa_r p9 q 10 AA s6.2, ps_w q 10 AA s6.2, tp_w a1 q s1, bd_w a3 q s3, mo_w a4 q s4, pg_w a5 q s5, pa_r s8 q 2 BB z7, ps_w q 2 BB z7]) [0, 2, 6, 7, 8, 1, 3, 4, 5, 9, 10] (show List.Perm _ (List.range 11) by decide) rfl rfl
      refine hp.trans ?_
      simp only [List.flatten_cons, List.flatten_nil, List.append_nil, List.append_assoc]
      exact List.Perm.refl _
    · obtain ⟨hr, g_s2, g_s6⟩ := hu
      refine ⟨_, ⟨hr, a0, a1, (va_up a2 12 u.2.1), a3, a4, a5, p8, s8, p9, u.1, BB, rfl, rfl⟩, ?_⟩
      rw [← g_s2, ← g_s6]
      have hp := bk_perm (L := cb_l q a0 a1 (va_up a2 12 u.2.1) a3 a4 a5 p8 s8 p9 u.1 BB s1 u.2.2.1 s3 s4 s5 u.2.2.2 z7) (L2 := [fo_w (a0 0) (a1 0) (a2 0) (a3 0) (a4 0) (a5 0) p8 s8, bd_w (va_up a2 12 u.2.1) q u.2.2.1, pa_o p8 p9 u.2.2.2, pa_r p9 q 10 u.1 u.2.2.2.2, ps_w q 10 u.1 u.2.2.2.2, tp_w a1 q s1, bd_w a3 q s3, mo_w a4 q s4, pg_w a5 q s5, pa_r s8 q 2 BB z7, ps_w q 2 BB z7]) [0, 2, 6, 7, 8, 1, 3, 4, 5, 9, 10] (show List.Perm _ (List.range 11) by decide) rfl rfl
      refine List.Perm.symm (hp.trans ?_)
      simp only [List.flatten_cons, List.flatten_nil, List.append_nil, List.append_assoc]
      exact List.Perm.refl _
  · intro sz
    refine ⟨_, _, [], _, _, _, c2_X7_undo (post := fun r u => r = r7 ∧ u = mn) (v7 _ ⟨rfl, rfl⟩), rfl, by rw [f2, List.append_nil], fun r u hu => ?_⟩
    exact ⟨_, ⟨hu.1, b, rfl, rfl⟩, by rw [List.append_nil, hu.2]⟩
set_option maxHeartbeats 4000000 in
theorem pl_keep {l : Launch} {D : va_G} {q : Nat → ClassId} {h h2 : Nat} {w w2 : va_W} {s1 : Tp} {s2 s3 : Bd} {s4 : Mo} {s5 : Pg} {s6 : Pa} {z7 : Nat → Option Bd} {m : Md} {N : Int} {x1 : Int32} (hW : c_W q h s1 s2 s3 s4 s5 s6 z7 w) (hV : m_W q h2 m w2) (hJ : JJ N s1 s2 s3 s4 s5 s6 z7 m) : ∃ (r6 r7 : Int32) (M : Int) (z7n : Nat → Option Bd) (mn : Md), un_i l D q 5 yX6_keep cX6_keep 3 (some .int) ({ frames := 3, cells := 14, slots := 6906, locals := 124 } : Room) h [.int x1] 14 6906 w (fun r w3 => r = r6 ∧ c_W q h s1 s2 s3 s4 s5 s6 z7n w3) ∧ un_i l D q 6 yX7_keep cX7_keep 3 (some .int) ({ frames := 2, cells := 0, slots := 0, locals := 40 } : Room) h2 [.int x1] 0 0 w2 (fun r w3 => r = r7 ∧ m_W q h2 mn w3) ∧ JJ M s1 s2 s3 s4 s5 s6 z7n mn := by
  obtain ⟨a0, a1, a2, a3, a4, a5, p8, s8, p9, AA, BB, e1, e2⟩ := hW
  obtain ⟨b, f1, f2⟩ := hV
  subst e1
  subst f1
  obtain ⟨r6, r7, M, z7n, mn, v6, v7, hn⟩ := pm_keep (x1 := x1) hJ
  refine ⟨r6, r7, M, z7n, mn, ?_, ?_, hn⟩
  · intro sz
    refine ⟨_, _, [tp_w a1 q s1, bd_w a3 q s3, mo_w a4 q s4, pg_w a5 q s5, pa_o p8 p9 s6, pa_r p9 q 10 AA s6.2, ps_w q 10 AA s6.2].flatten, _, _, _, c2_X6_keep (a1 := a1) (a2 := a2) (a3 := a3) (a4 := a4) (a5 := a5) (p8 := p8) (s8 := s8) (p9 := p9) (z7 := z7) (AA := BB) (post := fun r y_z7 => r = r6 ∧ y_z7 = z7n) (v6 _ ⟨rfl, rfl⟩), rfl, ?_, fun r u hu => ?_⟩
    · rw [e2]
      have hp := bk_perm (L := cb_l q a0 a1 a2 a3 a4 a5 p8 s8 p9 AA BB s1 s2 s3 s4 s5 s6 z7) (L2 := [fo_w (a0 0) (a1 0) (a2 0) (a3 0) (a4 0) (a5 0) p8 s8, bd_w a2 q s2, pa_r s8 q 2 BB z7, ps_w q 2 BB z7, tp_w a1 q s1, bd_w a3 q s3, mo_w a4 q s4, pg_w a5 q s5, pa_o p8 p9 s6, pa_r p9 q 10 AA s6.2, ps_w q 10 AA s6.2]) [0, 2, 9, 10, 1, 3, 4, 5, 6, 7, 8] (show List.Perm _ (List.range 11) by decide) rfl rfl
      refine hp.trans ?_
      simp only [List.flatten_cons, List.flatten_nil, List.append_nil, List.append_assoc]
      exact List.Perm.refl _
    · obtain ⟨hr, g_z7⟩ := hu
      refine ⟨_, ⟨hr, a0, a1, a2, a3, a4, a5, p8, s8, p9, AA, u.1, rfl, rfl⟩, ?_⟩
      rw [← g_z7]
      have hp := bk_perm (L := cb_l q a0 a1 a2 a3 a4 a5 p8 s8 p9 AA u.1 s1 s2 s3 s4 s5 s6 u.2) (L2 := [fo_w (a0 0) (a1 0) (a2 0) (a3 0) (a4 0) (a5 0) p8 s8, bd_w a2 q s2, pa_r s8 q 2 u.1 u.2, ps_w q 2 u.1 u.2, tp_w a1 q s1, bd_w a3 q s3, mo_w a4 q s4, pg_w a5 q s5, pa_o p8 p9 s6, pa_r p9 q 10 AA s6.2, ps_w q 10 AA s6.2]) [0, 2, 9, 10, 1, 3, 4, 5, 6, 7, 8] (show List.Perm _ (List.range 11) by decide) rfl rfl
      refine List.Perm.symm (hp.trans ?_)
      simp only [List.flatten_cons, List.flatten_nil, List.append_nil, List.append_assoc]
      exact List.Perm.refl _
  · intro sz
    refine ⟨_, _, [], _, _, _, c2_X7_keep (post := fun r u => r = r7 ∧ u = mn) (v7 _ ⟨rfl, rfl⟩), rfl, by rw [f2, List.append_nil], fun r u hu => ?_⟩
    exact ⟨_, ⟨hu.1, b, rfl, rfl⟩, by rw [List.append_nil, hu.2]⟩
set_option maxHeartbeats 4000000 in
theorem pl_back {l : Launch} {D : va_G} {q : Nat → ClassId} {h h2 : Nat} {w w2 : va_W} {s1 : Tp} {s2 s3 : Bd} {s4 : Mo} {s5 : Pg} {s6 : Pa} {z7 : Nat → Option Bd} {m : Md} {N : Int} {x1 : Int32} (hW : c_W q h s1 s2 s3 s4 s5 s6 z7 w) (hV : m_W q h2 m w2) (hJ : JJ N s1 s2 s3 s4 s5 s6 z7 m) : ∃ (r6 r7 : Int32) (M : Int) (s2n : Bd) (s6n : Pa) (z7n : Nat → Option Bd) (mn : Md), un_i l D q 5 yX6_back cX6_back 3 (some .int) ({ frames := 3, cells := 1, slots := 6400, locals := 124 } : Room) h [.int x1] 1 6400 w (fun r w3 => r = r6 ∧ c_W q h s1 s2n s3 s4 s5 s6n z7n w3) ∧ un_i l D q 6 yX7_back cX7_back 3 (some .int) ({ frames := 2, cells := 0, slots := 0, locals := 40 } : Room) h2 [.int x1] 0 0 w2 (fun r w3 => r = r7 ∧ m_W q h2 mn w3) ∧ s6n.2 = s6.2 ∧ JJ M s1 s2n s3 s4 s5 s6n z7n mn := by
  obtain ⟨a0, a1, a2, a3, a4, a5, p8, s8, p9, AA, BB, e1, e2⟩ := hW
  obtain ⟨b, f1, f2⟩ := hV
  subst e1
  subst f1
  obtain ⟨r6, r7, M, s2n, s6n, z7n, mn, v6, v7, hn⟩ := pm_back (x1 := x1) hJ
  refine ⟨r6, r7, M, s2n, s6n, z7n, mn, ?_, ?_, hn⟩
  · intro sz
    refine ⟨_, _, [tp_w a1 q s1, bd_w a3 q s3, mo_w a4 q s4, pg_w a5 q s5, pa_r p9 q 10 AA s6.2, ps_w q 10 AA s6.2].flatten, _, _, _, c2_X6_back (a1 := a1) (a2 := a2) (a3 := a3) (a4 := a4) (a5 := a5) (p8 := p8) (s8 := s8) (p9 := p9) (z7 := z7) (AA := BB) (post := fun r y_s2 y_s6 y_z7 => r = r6 ∧ y_s2 = s2n ∧ y_s6 = s6n ∧ y_z7 = z7n) (v6 _ ⟨rfl, rfl, rfl, rfl⟩), rfl, ?_, fun r u hu => ?_⟩
    · rw [e2]
      have hp := bk_perm (L := cb_l q a0 a1 a2 a3 a4 a5 p8 s8 p9 AA BB s1 s2 s3 s4 s5 s6 z7) (L2 := [fo_w (a0 0) (a1 0) (a2 0) (a3 0) (a4 0) (a5 0) p8 s8, bd_w a2 q s2, pa_o p8 p9 s6, pa_r s8 q 2 BB z7, ps_w q 2 BB z7, tp_w a1 q s1, bd_w a3 q s3, mo_w a4 q s4, pg_w a5 q s5, pa_r p9 q 10 AA s6.2, ps_w q 10 AA s6.2]) [0, 2, 6, 9, 10, 1, 3, 4, 5, 7, 8] (show List.Perm _ (List.range 11) by decide) rfl rfl
      refine hp.trans ?_
      simp only [List.flatten_cons, List.flatten_nil, List.append_nil, List.append_assoc]
      exact List.Perm.refl _
    · obtain ⟨hr, g_s2, g_s6, g_z7⟩ := hu
      refine ⟨_, ⟨hr, a0, a1, (va_up a2 12 u.2.1), a3, a4, a5, p8, s8, p9, AA, u.1, rfl, rfl⟩, ?_⟩
      rw [← g_s2, ← g_s6, ← g_z7]
      have hp := bk_perm (L := cb_l q a0 a1 (va_up a2 12 u.2.1) a3 a4 a5 p8 s8 p9 AA u.1 s1 u.2.2.1 s3 s4 s5 u.2.2.2.1 u.2.2.2.2) (L2 := [fo_w (a0 0) (a1 0) (a2 0) (a3 0) (a4 0) (a5 0) p8 s8, bd_w (va_up a2 12 u.2.1) q u.2.2.1, pa_o p8 p9 u.2.2.2.1, pa_r s8 q 2 u.1 u.2.2.2.2, ps_w q 2 u.1 u.2.2.2.2, tp_w a1 q s1, bd_w a3 q s3, mo_w a4 q s4, pg_w a5 q s5, pa_r p9 q 10 AA u.2.2.2.1.2, ps_w q 10 AA u.2.2.2.1.2]) [0, 2, 6, 9, 10, 1, 3, 4, 5, 7, 8] (show List.Perm _ (List.range 11) by decide) rfl rfl
      refine List.Perm.symm (hp.trans ?_)
      simp only [List.flatten_cons, List.flatten_nil, List.append_nil, List.append_assoc]
      rw [show u.2.2.2.1.2 = s6.2 from (congrArg Prod.snd g_s6).trans hn.1]
  · intro sz
    refine ⟨_, _, [], _, _, _, c2_X7_back (post := fun r u => r = r7 ∧ u = mn) (v7 _ ⟨rfl, rfl⟩), rfl, by rw [f2, List.append_nil], fun r u hu => ?_⟩
    exact ⟨_, ⟨hu.1, b, rfl, rfl⟩, by rw [List.append_nil, hu.2]⟩
set_option maxHeartbeats 4000000 in
theorem pl_cell {l : Launch} {D : va_G} {q : Nat → ClassId} {h h2 : Nat} {w w2 : va_W} {s1 : Tp} {s2 s3 : Bd} {s4 : Mo} {s5 : Pg} {s6 : Pa} {z7 : Nat → Option Bd} {m : Md} {N : Int} {x1 : Int32} {x2 : Int32} (hW : c_W q h s1 s2 s3 s4 s5 s6 z7 w) (hV : m_W q h2 m w2) (hJ : JJ N s1 s2 s3 s4 s5 s6 z7 m) : ∃ (r6 r7 : Int32) (M : Int) (mn : Md), un_ri l D q 5 yX6_cell cX6_cell 3 (some .int) ({ frames := 2, cells := 0, slots := 0, locals := 42 } : Room) h [.int x1, .int x2] w (fun r => r = r6) ∧ un_ri l D q 6 yX7_cell cX7_cell 3 (some .int) ({ frames := 3, cells := 0, slots := 0, locals := 64 } : Room) h2 [.int x1, .int x2] w2 (fun r => r = r7) ∧ mn = m ∧ JJ M s1 s2 s3 s4 s5 s6 z7 mn := by
  obtain ⟨a0, a1, a2, a3, a4, a5, p8, s8, p9, AA, BB, e1, e2⟩ := hW
  obtain ⟨b, f1, f2⟩ := hV
  subst e1
  subst f1
  obtain ⟨r6, r7, M, mn, v6, v7, hn⟩ := pm_cell (x1 := x1) (x2 := x2) hJ
  refine ⟨r6, r7, M, mn, ?_, ?_, hn⟩
  · refine ⟨_, [tp_w a1 q s1, bd_w a3 q s3, mo_w a4 q s4, pg_w a5 q s5, pa_o p8 p9 s6, pa_r p9 q 10 AA s6.2, ps_w q 10 AA s6.2, pa_r s8 q 2 BB z7, ps_w q 2 BB z7].flatten, _, c2_X6_cell (a1 := a1) (a2 := a2) (a3 := a3) (a4 := a4) (a5 := a5) (p8 := p8) (s8 := s8) (post := fun r => r = r6) (v6 _ rfl), rfl, ?_⟩
    rw [e2]
    have hp := bk_perm (L := cb_l q a0 a1 a2 a3 a4 a5 p8 s8 p9 AA BB s1 s2 s3 s4 s5 s6 z7) (L2 := [fo_w (a0 0) (a1 0) (a2 0) (a3 0) (a4 0) (a5 0) p8 s8, bd_w a2 q s2, tp_w a1 q s1, bd_w a3 q s3, mo_w a4 q s4, pg_w a5 q s5, pa_o p8 p9 s6, pa_r p9 q 10 AA s6.2, ps_w q 10 AA s6.2, pa_r s8 q 2 BB z7, ps_w q 2 BB z7]) [0, 2, 1, 3, 4, 5, 6, 7, 8, 9, 10] (show List.Perm _ (List.range 11) by decide) rfl rfl
    refine hp.trans ?_
    simp only [List.flatten_cons, List.flatten_nil, List.append_nil, List.append_assoc]
    exact List.Perm.refl _
  · exact ⟨_, [], _, c2_X7_cell (post := fun r => r = r7) (v7 _ rfl), rfl, by rw [f2, List.append_nil]⟩
set_option maxHeartbeats 4000000 in
theorem pl_worn {l : Launch} {D : va_G} {q : Nat → ClassId} {h h2 : Nat} {w w2 : va_W} {s1 : Tp} {s2 s3 : Bd} {s4 : Mo} {s5 : Pg} {s6 : Pa} {z7 : Nat → Option Bd} {m : Md} {N : Int} {x1 : Int32} (hW : c_W q h s1 s2 s3 s4 s5 s6 z7 w) (hV : m_W q h2 m w2) (hJ : JJ N s1 s2 s3 s4 s5 s6 z7 m) : ∃ (r6 r7 : Int64) (M : Int) (mn : Md), un_rl l D q 5 yX6_worn cX6_worn 2 (some .long) ({ frames := 2, cells := 0, slots := 0, locals := 41 } : Room) h [.int x1] w (fun r => r = r6) ∧ un_rl l D q 6 yX7_worn cX7_worn 2 (some .long) ({ frames := 3, cells := 0, slots := 0, locals := 61 } : Room) h2 [.int x1] w2 (fun r => r = r7) ∧ mn = m ∧ JJ M s1 s2 s3 s4 s5 s6 z7 mn := by
  obtain ⟨a0, a1, a2, a3, a4, a5, p8, s8, p9, AA, BB, e1, e2⟩ := hW
  obtain ⟨b, f1, f2⟩ := hV
  subst e1
  subst f1
  obtain ⟨r6, r7, M, mn, v6, v7, hn⟩ := pm_worn (x1 := x1) hJ
  refine ⟨r6, r7, M, mn, ?_, ?_, hn⟩
  · refine ⟨_, [tp_w a1 q s1, bd_w a3 q s3, mo_w a4 q s4, pg_w a5 q s5, pa_o p8 p9 s6, pa_r p9 q 10 AA s6.2, ps_w q 10 AA s6.2, pa_r s8 q 2 BB z7, ps_w q 2 BB z7].flatten, _, c2_X6_worn (a1 := a1) (a2 := a2) (a3 := a3) (a4 := a4) (a5 := a5) (p8 := p8) (s8 := s8) (post := fun r => r = r6) (v6 _ rfl), rfl, ?_⟩
    rw [e2]
    have hp := bk_perm (L := cb_l q a0 a1 a2 a3 a4 a5 p8 s8 p9 AA BB s1 s2 s3 s4 s5 s6 z7) (L2 := [fo_w (a0 0) (a1 0) (a2 0) (a3 0) (a4 0) (a5 0) p8 s8, bd_w a2 q s2, tp_w a1 q s1, bd_w a3 q s3, mo_w a4 q s4, pg_w a5 q s5, pa_o p8 p9 s6, pa_r p9 q 10 AA s6.2, ps_w q 10 AA s6.2, pa_r s8 q 2 BB z7, ps_w q 2 BB z7]) [0, 2, 1, 3, 4, 5, 6, 7, 8, 9, 10] (show List.Perm _ (List.range 11) by decide) rfl rfl
    refine hp.trans ?_
    simp only [List.flatten_cons, List.flatten_nil, List.append_nil, List.append_assoc]
    exact List.Perm.refl _
  · exact ⟨_, [], _, c2_X7_worn (post := fun r => r = r7) (v7 _ rfl), rfl, by rw [f2, List.append_nil]⟩
set_option maxHeartbeats 4000000 in
theorem pl_drum {l : Launch} {D : va_G} {q : Nat → ClassId} {h h2 : Nat} {w w2 : va_W} {s1 : Tp} {s2 s3 : Bd} {s4 : Mo} {s5 : Pg} {s6 : Pa} {z7 : Nat → Option Bd} {m : Md} {N : Int} {x1 : Int32} {x2 : Int32} (hW : c_W q h s1 s2 s3 s4 s5 s6 z7 w) (hV : m_W q h2 m w2) (hJ : JJ N s1 s2 s3 s4 s5 s6 z7 m) : ∃ (r6 r7 : Int32) (M : Int) (mn : Md), un_ri l D q 5 yX6_drum cX6_drum 3 (some .int) ({ frames := 4, cells := 0, slots := 0, locals := 93 } : Room) h [.int x1, .int x2] w (fun r => r = r6) ∧ un_ri l D q 6 yX7_drum cX7_drum 3 (some .int) ({ frames := 3, cells := 0, slots := 0, locals := 71 } : Room) h2 [.int x1, .int x2] w2 (fun r => r = r7) ∧ mn = m ∧ JJ M s1 s2 s3 s4 s5 s6 z7 mn := by
  obtain ⟨a0, a1, a2, a3, a4, a5, p8, s8, p9, AA, BB, e1, e2⟩ := hW
  obtain ⟨b, f1, f2⟩ := hV
  subst e1
  subst f1
  obtain ⟨r6, r7, M, mn, v6, v7, hn⟩ := pm_drum (x1 := x1) (x2 := x2) hJ
  refine ⟨r6, r7, M, mn, ?_, ?_, hn⟩
  · refine ⟨_, [tp_w a1 q s1, bd_w a3 q s3, mo_w a4 q s4, pg_w a5 q s5, pa_o p8 p9 s6, pa_r p9 q 10 AA s6.2, ps_w q 10 AA s6.2, pa_r s8 q 2 BB z7, ps_w q 2 BB z7].flatten, _, c2_X6_drum (a1 := a1) (a2 := a2) (a3 := a3) (a4 := a4) (a5 := a5) (p8 := p8) (s8 := s8) (post := fun r => r = r6) (v6 _ rfl), rfl, ?_⟩
    rw [e2]
    have hp := bk_perm (L := cb_l q a0 a1 a2 a3 a4 a5 p8 s8 p9 AA BB s1 s2 s3 s4 s5 s6 z7) (L2 := [fo_w (a0 0) (a1 0) (a2 0) (a3 0) (a4 0) (a5 0) p8 s8, bd_w a2 q s2, tp_w a1 q s1, bd_w a3 q s3, mo_w a4 q s4, pg_w a5 q s5, pa_o p8 p9 s6, pa_r p9 q 10 AA s6.2, ps_w q 10 AA s6.2, pa_r s8 q 2 BB z7, ps_w q 2 BB z7]) [0, 2, 1, 3, 4, 5, 6, 7, 8, 9, 10] (show List.Perm _ (List.range 11) by decide) rfl rfl
    refine hp.trans ?_
    simp only [List.flatten_cons, List.flatten_nil, List.append_nil, List.append_assoc]
    exact List.Perm.refl _
  · exact ⟨_, [], _, c2_X7_drum (post := fun r => r = r7) (v7 _ rfl), rfl, by rw [f2, List.append_nil]⟩
set_option maxHeartbeats 4000000 in
theorem pl_sign {l : Launch} {D : va_G} {q : Nat → ClassId} {h h2 : Nat} {w w2 : va_W} {s1 : Tp} {s2 s3 : Bd} {s4 : Mo} {s5 : Pg} {s6 : Pa} {z7 : Nat → Option Bd} {m : Md} {N : Int} {x1 : Int32} {x2 : Int32} (hW : c_W q h s1 s2 s3 s4 s5 s6 z7 w) (hV : m_W q h2 m w2) (hJ : JJ N s1 s2 s3 s4 s5 s6 z7 m) : ∃ (r6 r7 : Int32) (M : Int) (mn : Md), un_ri l D q 5 yX6_sign cX6_sign 3 (some .int) ({ frames := 1, cells := 0, slots := 0, locals := 22 } : Room) h [.int x1, .int x2] w (fun r => r = r6) ∧ un_ri l D q 6 yX7_sign cX7_sign 3 (some .int) ({ frames := 2, cells := 0, slots := 0, locals := 46 } : Room) h2 [.int x1, .int x2] w2 (fun r => r = r7) ∧ mn = m ∧ JJ M s1 s2 s3 s4 s5 s6 z7 mn := by
  obtain ⟨a0, a1, a2, a3, a4, a5, p8, s8, p9, AA, BB, e1, e2⟩ := hW
  obtain ⟨b, f1, f2⟩ := hV
  subst e1
  subst f1
  obtain ⟨r6, r7, M, mn, v6, v7, hn⟩ := pm_sign (x1 := x1) (x2 := x2) hJ
  refine ⟨r6, r7, M, mn, ?_, ?_, hn⟩
  · refine ⟨_, [tp_w a1 q s1, bd_w a3 q s3, mo_w a4 q s4, pg_w a5 q s5, pa_o p8 p9 s6, pa_r p9 q 10 AA s6.2, ps_w q 10 AA s6.2, pa_r s8 q 2 BB z7, ps_w q 2 BB z7].flatten, _, c2_X6_sign (a1 := a1) (a2 := a2) (a3 := a3) (a4 := a4) (a5 := a5) (p8 := p8) (s8 := s8) (post := fun r => r = r6) (v6 _ rfl), rfl, ?_⟩
    rw [e2]
    have hp := bk_perm (L := cb_l q a0 a1 a2 a3 a4 a5 p8 s8 p9 AA BB s1 s2 s3 s4 s5 s6 z7) (L2 := [fo_w (a0 0) (a1 0) (a2 0) (a3 0) (a4 0) (a5 0) p8 s8, bd_w a2 q s2, tp_w a1 q s1, bd_w a3 q s3, mo_w a4 q s4, pg_w a5 q s5, pa_o p8 p9 s6, pa_r p9 q 10 AA s6.2, ps_w q 10 AA s6.2, pa_r s8 q 2 BB z7, ps_w q 2 BB z7]) [0, 2, 1, 3, 4, 5, 6, 7, 8, 9, 10] (show List.Perm _ (List.range 11) by decide) rfl rfl
    refine hp.trans ?_
    simp only [List.flatten_cons, List.flatten_nil, List.append_nil, List.append_assoc]
    exact List.Perm.refl _
  · exact ⟨_, [], _, c2_X7_sign (post := fun r => r = r7) (v7 _ rfl), rfl, by rw [f2, List.append_nil]⟩
set_option maxHeartbeats 4000000 in
theorem pl_at {l : Launch} {D : va_G} {q : Nat → ClassId} {h h2 : Nat} {w w2 : va_W} {s1 : Tp} {s2 s3 : Bd} {s4 : Mo} {s5 : Pg} {s6 : Pa} {z7 : Nat → Option Bd} {m : Md} {N : Int} {x1 : Int32} {x2 : Int32} {x3 : Int32} (hW : c_W q h s1 s2 s3 s4 s5 s6 z7 w) (hV : m_W q h2 m w2) (hJ : JJ N s1 s2 s3 s4 s5 s6 z7 m) : ∃ (r6 r7 : Int32) (M : Int) (mn : Md), un_ri l D q 5 yX6_at cX6_at 5 (some .int) ({ frames := 2, cells := 0, slots := 0, locals := 44 } : Room) h [.int x1, .int x2, .int x3] w (fun r => r = r6) ∧ un_ri l D q 6 yX7_at cX7_at 4 (some .int) ({ frames := 2, cells := 0, slots := 0, locals := 46 } : Room) h2 [.int x1, .int x2, .int x3] w2 (fun r => r = r7) ∧ mn = m ∧ JJ M s1 s2 s3 s4 s5 s6 z7 mn := by
  obtain ⟨a0, a1, a2, a3, a4, a5, p8, s8, p9, AA, BB, e1, e2⟩ := hW
  obtain ⟨b, f1, f2⟩ := hV
  subst e1
  subst f1
  obtain ⟨r6, r7, M, mn, v6, v7, hn⟩ := pm_at (x1 := x1) (x2 := x2) (x3 := x3) hJ
  refine ⟨r6, r7, M, mn, ?_, ?_, hn⟩
  · refine ⟨_, [tp_w a1 q s1, bd_w a3 q s3, mo_w a4 q s4, pg_w a5 q s5, pa_o p8 p9 s6, pa_r p9 q 10 AA s6.2, ps_w q 10 AA s6.2, pa_r s8 q 2 BB z7, ps_w q 2 BB z7].flatten, _, c2_X6_at (a1 := a1) (a2 := a2) (a3 := a3) (a4 := a4) (a5 := a5) (p8 := p8) (s8 := s8) (post := fun r => r = r6) (v6 _ rfl), rfl, ?_⟩
    rw [e2]
    have hp := bk_perm (L := cb_l q a0 a1 a2 a3 a4 a5 p8 s8 p9 AA BB s1 s2 s3 s4 s5 s6 z7) (L2 := [fo_w (a0 0) (a1 0) (a2 0) (a3 0) (a4 0) (a5 0) p8 s8, bd_w a2 q s2, tp_w a1 q s1, bd_w a3 q s3, mo_w a4 q s4, pg_w a5 q s5, pa_o p8 p9 s6, pa_r p9 q 10 AA s6.2, ps_w q 10 AA s6.2, pa_r s8 q 2 BB z7, ps_w q 2 BB z7]) [0, 2, 1, 3, 4, 5, 6, 7, 8, 9, 10] (show List.Perm _ (List.range 11) by decide) rfl rfl
    refine hp.trans ?_
    simp only [List.flatten_cons, List.flatten_nil, List.append_nil, List.append_assoc]
    exact List.Perm.refl _
  · exact ⟨_, [], _, c2_X7_at (post := fun r => r = r7) (v7 _ rfl), rfl, by rw [f2, List.append_nil]⟩
set_option maxHeartbeats 4000000 in
theorem pl_which {l : Launch} {D : va_G} {q : Nat → ClassId} {h h2 : Nat} {w w2 : va_W} {s1 : Tp} {s2 s3 : Bd} {s4 : Mo} {s5 : Pg} {s6 : Pa} {z7 : Nat → Option Bd} {m : Md} {N : Int} {x1 : Int32} (hW : c_W q h s1 s2 s3 s4 s5 s6 z7 w) (hV : m_W q h2 m w2) (hJ : JJ N s1 s2 s3 s4 s5 s6 z7 m) : ∃ (r6 r7 : Int64) (M : Int) (s4n : Mo) (mn : Md), un_l l D q 5 yX6_which cX6_which 5 (some .long) ({ frames := 5, cells := 0, slots := 0, locals := 108 } : Room) h [.int x1] 0 0 w (fun r w3 => r = r6 ∧ c_W q h s1 s2 s3 s4n s5 s6 z7 w3) ∧ un_l l D q 6 yX7_which cX7_which 5 (some .long) ({ frames := 4, cells := 0, slots := 0, locals := 89 } : Room) h2 [.int x1] 0 0 w2 (fun r w3 => r = r7 ∧ m_W q h2 mn w3) ∧ JJ M s1 s2 s3 s4n s5 s6 z7 mn := by
  obtain ⟨a0, a1, a2, a3, a4, a5, p8, s8, p9, AA, BB, e1, e2⟩ := hW
  obtain ⟨b, f1, f2⟩ := hV
  subst e1
  subst f1
  obtain ⟨r6, r7, M, s4n, mn, v6, v7, hn⟩ := pm_which (x1 := x1) hJ
  refine ⟨r6, r7, M, s4n, mn, ?_, ?_, hn⟩
  · intro sz
    refine ⟨_, _, [tp_w a1 q s1, bd_w a3 q s3, pg_w a5 q s5, pa_o p8 p9 s6, pa_r p9 q 10 AA s6.2, ps_w q 10 AA s6.2, pa_r s8 q 2 BB z7, ps_w q 2 BB z7].flatten, _, _, _, c2_X6_which (a1 := a1) (a2 := a2) (a3 := a3) (a4 := a4) (a5 := a5) (p8 := p8) (s8 := s8) (post := fun r y_s4 => r = r6 ∧ y_s4 = s4n) (v6 _ ⟨rfl, rfl⟩), rfl, ?_, fun r u hu => ?_⟩
    · rw [e2]
      have hp := bk_perm (L := cb_l q a0 a1 a2 a3 a4 a5 p8 s8 p9 AA BB s1 s2 s3 s4 s5 s6 z7) (L2 := [fo_w (a0 0) (a1 0) (a2 0) (a3 0) (a4 0) (a5 0) p8 s8, bd_w a2 q s2, mo_w a4 q s4, tp_w a1 q s1, bd_w a3 q s3, pg_w a5 q s5, pa_o p8 p9 s6, pa_r p9 q 10 AA s6.2, ps_w q 10 AA s6.2, pa_r s8 q 2 BB z7, ps_w q 2 BB z7]) [0, 2, 4, 1, 3, 5, 6, 7, 8, 9, 10] (show List.Perm _ (List.range 11) by decide) rfl rfl
      refine hp.trans ?_
      simp only [List.flatten_cons, List.flatten_nil, List.append_nil, List.append_assoc]
      exact List.Perm.refl _
    · obtain ⟨hr, g_s4⟩ := hu
      refine ⟨_, ⟨hr, a0, a1, a2, a3, a4, a5, p8, s8, p9, AA, BB, rfl, rfl⟩, ?_⟩
      rw [← g_s4]
      have hp := bk_perm (L := cb_l q a0 a1 a2 a3 a4 a5 p8 s8 p9 AA BB s1 s2 s3 u s5 s6 z7) (L2 := [fo_w (a0 0) (a1 0) (a2 0) (a3 0) (a4 0) (a5 0) p8 s8, bd_w a2 q s2, mo_w a4 q u, tp_w a1 q s1, bd_w a3 q s3, pg_w a5 q s5, pa_o p8 p9 s6, pa_r p9 q 10 AA s6.2, ps_w q 10 AA s6.2, pa_r s8 q 2 BB z7, ps_w q 2 BB z7]) [0, 2, 4, 1, 3, 5, 6, 7, 8, 9, 10] (show List.Perm _ (List.range 11) by decide) rfl rfl
      refine List.Perm.symm (hp.trans ?_)
      simp only [List.flatten_cons, List.flatten_nil, List.append_nil, List.append_assoc]
      exact List.Perm.refl _
  · intro sz
    refine ⟨_, _, [], _, _, _, c2_X7_which (post := fun r u => r = r7 ∧ u = mn) (v7 _ ⟨rfl, rfl⟩), rfl, by rw [f2, List.append_nil], fun r u hu => ?_⟩
    exact ⟨_, ⟨hu.1, b, rfl, rfl⟩, by rw [List.append_nil, hu.2]⟩
set_option maxHeartbeats 4000000 in
theorem pl_left {l : Launch} {D : va_G} {q : Nat → ClassId} {h h2 : Nat} {w w2 : va_W} {s1 : Tp} {s2 s3 : Bd} {s4 : Mo} {s5 : Pg} {s6 : Pa} {z7 : Nat → Option Bd} {m : Md} {N : Int} {x1 : Int32} (hW : c_W q h s1 s2 s3 s4 s5 s6 z7 w) (hV : m_W q h2 m w2) (hJ : JJ N s1 s2 s3 s4 s5 s6 z7 m) : ∃ (r6 r7 : Int32) (M : Int) (mn : Md), un_ri l D q 5 yX6_left cX6_left 2 (some .int) ({ frames := 3, cells := 0, slots := 0, locals := 84 } : Room) h [.int x1] w (fun r => r = r6) ∧ un_ri l D q 6 yX7_left cX7_left 6 (some .int) ({ frames := 3, cells := 0, slots := 0, locals := 64 } : Room) h2 [.int x1] w2 (fun r => r = r7) ∧ mn = m ∧ JJ M s1 s2 s3 s4 s5 s6 z7 mn := by
  obtain ⟨a0, a1, a2, a3, a4, a5, p8, s8, p9, AA, BB, e1, e2⟩ := hW
  obtain ⟨b, f1, f2⟩ := hV
  subst e1
  subst f1
  obtain ⟨r6, r7, M, mn, v6, v7, hn⟩ := pm_left (x1 := x1) hJ
  refine ⟨r6, r7, M, mn, ?_, ?_, hn⟩
  · refine ⟨_, [tp_w a1 q s1, bd_w a3 q s3, mo_w a4 q s4, pg_w a5 q s5, pa_o p8 p9 s6, pa_r p9 q 10 AA s6.2, ps_w q 10 AA s6.2, pa_r s8 q 2 BB z7, ps_w q 2 BB z7].flatten, _, c2_X6_left (a1 := a1) (a2 := a2) (a3 := a3) (a4 := a4) (a5 := a5) (p8 := p8) (s8 := s8) (post := fun r => r = r6) (v6 _ rfl), rfl, ?_⟩
    rw [e2]
    have hp := bk_perm (L := cb_l q a0 a1 a2 a3 a4 a5 p8 s8 p9 AA BB s1 s2 s3 s4 s5 s6 z7) (L2 := [fo_w (a0 0) (a1 0) (a2 0) (a3 0) (a4 0) (a5 0) p8 s8, bd_w a2 q s2, tp_w a1 q s1, bd_w a3 q s3, mo_w a4 q s4, pg_w a5 q s5, pa_o p8 p9 s6, pa_r p9 q 10 AA s6.2, ps_w q 10 AA s6.2, pa_r s8 q 2 BB z7, ps_w q 2 BB z7]) [0, 2, 1, 3, 4, 5, 6, 7, 8, 9, 10] (show List.Perm _ (List.range 11) by decide) rfl rfl
    refine hp.trans ?_
    simp only [List.flatten_cons, List.flatten_nil, List.append_nil, List.append_assoc]
    exact List.Perm.refl _
  · exact ⟨_, [], _, c2_X7_left (post := fun r => r = r7) (v7 _ rfl), rfl, by rw [f2, List.append_nil]⟩
set_option maxHeartbeats 4000000 in
theorem pl_when {l : Launch} {D : va_G} {q : Nat → ClassId} {h h2 : Nat} {w w2 : va_W} {s1 : Tp} {s2 s3 : Bd} {s4 : Mo} {s5 : Pg} {s6 : Pa} {z7 : Nat → Option Bd} {m : Md} {N : Int} {x1 : Int32} (hW : c_W q h s1 s2 s3 s4 s5 s6 z7 w) (hV : m_W q h2 m w2) (hJ : JJ N s1 s2 s3 s4 s5 s6 z7 m) : ∃ (r6 r7 : Int32) (M : Int) (s3n : Bd) (s4n : Mo) (mn : Md), un_i l D q 5 yX6_when cX6_when 2 (some .int) ({ frames := 5, cells := 0, slots := 0, locals := 134 } : Room) h [.int x1] 0 0 w (fun r w3 => r = r6 ∧ c_W q h s1 s2 s3n s4n s5 s6 z7 w3) ∧ un_i l D q 6 yX7_when cX7_when 8 (some .int) ({ frames := 5, cells := 0, slots := 0, locals := 110 } : Room) h2 [.int x1] 0 0 w2 (fun r w3 => r = r7 ∧ m_W q h2 mn w3) ∧ JJ M s1 s2 s3n s4n s5 s6 z7 mn := by
  obtain ⟨a0, a1, a2, a3, a4, a5, p8, s8, p9, AA, BB, e1, e2⟩ := hW
  obtain ⟨b, f1, f2⟩ := hV
  subst e1
  subst f1
  obtain ⟨r6, r7, M, s3n, s4n, mn, v6, v7, hn⟩ := pm_when (x1 := x1) hJ
  refine ⟨r6, r7, M, s3n, s4n, mn, ?_, ?_, hn⟩
  · intro sz
    refine ⟨_, _, [tp_w a1 q s1, pg_w a5 q s5, pa_o p8 p9 s6, pa_r p9 q 10 AA s6.2, ps_w q 10 AA s6.2, pa_r s8 q 2 BB z7, ps_w q 2 BB z7].flatten, _, _, _, c2_X6_when (a1 := a1) (a2 := a2) (a3 := a3) (a4 := a4) (a5 := a5) (p8 := p8) (s8 := s8) (post := fun r y_s3 y_s4 => r = r6 ∧ y_s3 = s3n ∧ y_s4 = s4n) (v6 _ ⟨rfl, rfl, rfl⟩), rfl, ?_, fun r u hu => ?_⟩
    · rw [e2]
      have hp := bk_perm (L := cb_l q a0 a1 a2 a3 a4 a5 p8 s8 p9 AA BB s1 s2 s3 s4 s5 s6 z7) (L2 := [fo_w (a0 0) (a1 0) (a2 0) (a3 0) (a4 0) (a5 0) p8 s8, bd_w a2 q s2, bd_w a3 q s3, mo_w a4 q s4, tp_w a1 q s1, pg_w a5 q s5, pa_o p8 p9 s6, pa_r p9 q 10 AA s6.2, ps_w q 10 AA s6.2, pa_r s8 q 2 BB z7, ps_w q 2 BB z7]) [0, 2, 3, 4, 1, 5, 6, 7, 8, 9, 10] (show List.Perm _ (List.range 11) by decide) rfl rfl
      refine hp.trans ?_
      simp only [List.flatten_cons, List.flatten_nil, List.append_nil, List.append_assoc]
      exact List.Perm.refl _
    · obtain ⟨hr, g_s3, g_s4⟩ := hu
      refine ⟨_, ⟨hr, a0, a1, a2, a3, a4, a5, p8, s8, p9, AA, BB, rfl, rfl⟩, ?_⟩
      rw [← g_s3, ← g_s4]
      have hp := bk_perm (L := cb_l q a0 a1 a2 a3 a4 a5 p8 s8 p9 AA BB s1 s2 u.1 u.2 s5 s6 z7) (L2 := [fo_w (a0 0) (a1 0) (a2 0) (a3 0) (a4 0) (a5 0) p8 s8, bd_w a2 q s2, bd_w a3 q u.1, mo_w a4 q u.2, tp_w a1 q s1, pg_w a5 q s5, pa_o p8 p9 s6, pa_r p9 q 10 AA s6.2, ps_w q 10 AA s6.2, pa_r s8 q 2 BB z7, ps_w q 2 BB z7]) [0, 2, 3, 4, 1, 5, 6, 7, 8, 9, 10] (show List.Perm _ (List.range 11) by decide) rfl rfl
      refine List.Perm.symm (hp.trans ?_)
      simp only [List.flatten_cons, List.flatten_nil, List.append_nil, List.append_assoc]
      exact List.Perm.refl _
  · intro sz
    refine ⟨_, _, [], _, _, _, c2_X7_when (post := fun r u => r = r7 ∧ u = mn) (v7 _ ⟨rfl, rfl⟩), rfl, by rw [f2, List.append_nil], fun r u hu => ?_⟩
    exact ⟨_, ⟨hu.1, b, rfl, rfl⟩, by rw [List.append_nil, hu.2]⟩
set_option maxHeartbeats 4000000 in
theorem pl_loudest {l : Launch} {D : va_G} {q : Nat → ClassId} {h h2 : Nat} {w w2 : va_W} {s1 : Tp} {s2 s3 : Bd} {s4 : Mo} {s5 : Pg} {s6 : Pa} {z7 : Nat → Option Bd} {m : Md} {N : Int} {x1 : Int32} (hW : c_W q h s1 s2 s3 s4 s5 s6 z7 w) (hV : m_W q h2 m w2) (hJ : JJ N s1 s2 s3 s4 s5 s6 z7 m) : ∃ (r6 r7 : Int32) (M : Int) (s3n : Bd) (s4n : Mo) (mn : Md), un_i l D q 5 yX6_loudest cX6_loudest 2 (some .int) ({ frames := 5, cells := 0, slots := 0, locals := 134 } : Room) h [.int x1] 0 0 w (fun r w3 => r = r6 ∧ c_W q h s1 s2 s3n s4n s5 s6 z7 w3) ∧ un_i l D q 6 yX7_loudest cX7_loudest 5 (some .int) ({ frames := 5, cells := 0, slots := 0, locals := 110 } : Room) h2 [.int x1] 0 0 w2 (fun r w3 => r = r7 ∧ m_W q h2 mn w3) ∧ JJ M s1 s2 s3n s4n s5 s6 z7 mn := by
  obtain ⟨a0, a1, a2, a3, a4, a5, p8, s8, p9, AA, BB, e1, e2⟩ := hW
  obtain ⟨b, f1, f2⟩ := hV
  subst e1
  subst f1
  obtain ⟨r6, r7, M, s3n, s4n, mn, v6, v7, hn⟩ := pm_loudest (x1 := x1) hJ
  refine ⟨r6, r7, M, s3n, s4n, mn, ?_, ?_, hn⟩
  · intro sz
    refine ⟨_, _, [tp_w a1 q s1, pg_w a5 q s5, pa_o p8 p9 s6, pa_r p9 q 10 AA s6.2, ps_w q 10 AA s6.2, pa_r s8 q 2 BB z7, ps_w q 2 BB z7].flatten, _, _, _, c2_X6_loudest (a1 := a1) (a2 := a2) (a3 := a3) (a4 := a4) (a5 := a5) (p8 := p8) (s8 := s8) (post := fun r y_s3 y_s4 => r = r6 ∧ y_s3 = s3n ∧ y_s4 = s4n) (v6 _ ⟨rfl, rfl, rfl⟩), rfl, ?_, fun r u hu => ?_⟩
    · rw [e2]
      have hp := bk_perm (L := cb_l q a0 a1 a2 a3 a4 a5 p8 s8 p9 AA BB s1 s2 s3 s4 s5 s6 z7) (L2 := [fo_w (a0 0) (a1 0) (a2 0) (a3 0) (a4 0) (a5 0) p8 s8, bd_w a2 q s2, bd_w a3 q s3, mo_w a4 q s4, tp_w a1 q s1, pg_w a5 q s5, pa_o p8 p9 s6, pa_r p9 q 10 AA s6.2, ps_w q 10 AA s6.2, pa_r s8 q 2 BB z7, ps_w q 2 BB z7]) [0, 2, 3, 4, 1, 5, 6, 7, 8, 9, 10] (show List.Perm _ (List.range 11) by decide) rfl rfl
      refine hp.trans ?_
      simp only [List.flatten_cons, List.flatten_nil, List.append_nil, List.append_assoc]
      exact List.Perm.refl _
    · obtain ⟨hr, g_s3, g_s4⟩ := hu
      refine ⟨_, ⟨hr, a0, a1, a2, a3, a4, a5, p8, s8, p9, AA, BB, rfl, rfl⟩, ?_⟩
      rw [← g_s3, ← g_s4]
      have hp := bk_perm (L := cb_l q a0 a1 a2 a3 a4 a5 p8 s8 p9 AA BB s1 s2 u.1 u.2 s5 s6 z7) (L2 := [fo_w (a0 0) (a1 0) (a2 0) (a3 0) (a4 0) (a5 0) p8 s8, bd_w a2 q s2, bd_w a3 q u.1, mo_w a4 q u.2, tp_w a1 q s1, pg_w a5 q s5, pa_o p8 p9 s6, pa_r p9 q 10 AA s6.2, ps_w q 10 AA s6.2, pa_r s8 q 2 BB z7, ps_w q 2 BB z7]) [0, 2, 3, 4, 1, 5, 6, 7, 8, 9, 10] (show List.Perm _ (List.range 11) by decide) rfl rfl
      refine List.Perm.symm (hp.trans ?_)
      simp only [List.flatten_cons, List.flatten_nil, List.append_nil, List.append_assoc]
      exact List.Perm.refl _
  · intro sz
    refine ⟨_, _, [], _, _, _, c2_X7_loudest (post := fun r u => r = r7 ∧ u = mn) (v7 _ ⟨rfl, rfl⟩), rfl, by rw [f2, List.append_nil], fun r u hu => ?_⟩
    exact ⟨_, ⟨hu.1, b, rfl, rfl⟩, by rw [List.append_nil, hu.2]⟩
set_option maxHeartbeats 4000000 in
theorem pl_total {l : Launch} {D : va_G} {q : Nat → ClassId} {h h2 : Nat} {w w2 : va_W} {s1 : Tp} {s2 s3 : Bd} {s4 : Mo} {s5 : Pg} {s6 : Pa} {z7 : Nat → Option Bd} {m : Md} {N : Int} {x1 : Int32} (hW : c_W q h s1 s2 s3 s4 s5 s6 z7 w) (hV : m_W q h2 m w2) (hJ : JJ N s1 s2 s3 s4 s5 s6 z7 m) : ∃ (r6 r7 : Int32) (M : Int) (mn : Md), un_ri l D q 5 yX6_total cX6_total 2 (some .int) ({ frames := 2, cells := 0, slots := 0, locals := 43 } : Room) h [.int x1] w (fun r => r = r6) ∧ un_ri l D q 6 yX7_total cX7_total 2 (some .int) ({ frames := 2, cells := 0, slots := 0, locals := 40 } : Room) h2 [.int x1] w2 (fun r => r = r7) ∧ mn = m ∧ JJ M s1 s2 s3 s4 s5 s6 z7 mn := by
  obtain ⟨a0, a1, a2, a3, a4, a5, p8, s8, p9, AA, BB, e1, e2⟩ := hW
  obtain ⟨b, f1, f2⟩ := hV
  subst e1
  subst f1
  obtain ⟨r6, r7, M, mn, v6, v7, hn⟩ := pm_total (x1 := x1) hJ
  refine ⟨r6, r7, M, mn, ?_, ?_, hn⟩
  · refine ⟨_, [tp_w a1 q s1, bd_w a3 q s3, mo_w a4 q s4, pg_w a5 q s5, pa_o p8 p9 s6, pa_r p9 q 10 AA s6.2, ps_w q 10 AA s6.2, pa_r s8 q 2 BB z7, ps_w q 2 BB z7].flatten, _, c2_X6_total (a1 := a1) (a2 := a2) (a3 := a3) (a4 := a4) (a5 := a5) (p8 := p8) (s8 := s8) (post := fun r => r = r6) (v6 _ rfl), rfl, ?_⟩
    rw [e2]
    have hp := bk_perm (L := cb_l q a0 a1 a2 a3 a4 a5 p8 s8 p9 AA BB s1 s2 s3 s4 s5 s6 z7) (L2 := [fo_w (a0 0) (a1 0) (a2 0) (a3 0) (a4 0) (a5 0) p8 s8, bd_w a2 q s2, tp_w a1 q s1, bd_w a3 q s3, mo_w a4 q s4, pg_w a5 q s5, pa_o p8 p9 s6, pa_r p9 q 10 AA s6.2, ps_w q 10 AA s6.2, pa_r s8 q 2 BB z7, ps_w q 2 BB z7]) [0, 2, 1, 3, 4, 5, 6, 7, 8, 9, 10] (show List.Perm _ (List.range 11) by decide) rfl rfl
    refine hp.trans ?_
    simp only [List.flatten_cons, List.flatten_nil, List.append_nil, List.append_assoc]
    exact List.Perm.refl _
  · exact ⟨_, [], _, c2_X7_total (post := fun r => r = r7) (v7 _ rfl), rfl, by rw [f2, List.append_nil]⟩
set_option maxHeartbeats 4000000 in
theorem pl_cost {l : Launch} {D : va_G} {q : Nat → ClassId} {h h2 : Nat} {w w2 : va_W} {s1 : Tp} {s2 s3 : Bd} {s4 : Mo} {s5 : Pg} {s6 : Pa} {z7 : Nat → Option Bd} {m : Md} {N : Int} {x1 : Int32} (hW : c_W q h s1 s2 s3 s4 s5 s6 z7 w) (hV : m_W q h2 m w2) (hJ : JJ N s1 s2 s3 s4 s5 s6 z7 m) : ∃ (r6 r7 : Int32) (M : Int) (mn : Md), un_ri l D q 5 yX6_cost cX6_cost 3 (some .int) ({ frames := 3, cells := 0, slots := 0, locals := 83 } : Room) h [.int x1] w (fun r => r = r6) ∧ un_i l D q 6 yX7_cost cX7_cost 2 (some .int) ({ frames := 4, cells := 0, slots := 0, locals := 95 } : Room) h2 [.int x1] 0 0 w2 (fun r w3 => r = r7 ∧ m_W q h2 mn w3) ∧ JJ M s1 s2 s3 s4 s5 s6 z7 mn := by
  obtain ⟨a0, a1, a2, a3, a4, a5, p8, s8, p9, AA, BB, e1, e2⟩ := hW
  obtain ⟨b, f1, f2⟩ := hV
  subst e1
  subst f1
  obtain ⟨r6, r7, M, mn, v6, v7, hn⟩ := pm_cost (x1 := x1) hJ
  refine ⟨r6, r7, M, mn, ?_, ?_, hn⟩
  · refine ⟨_, [bd_w a3 q s3, mo_w a4 q s4, pg_w a5 q s5, pa_o p8 p9 s6, pa_r p9 q 10 AA s6.2, ps_w q 10 AA s6.2, pa_r s8 q 2 BB z7, ps_w q 2 BB z7].flatten, _, c2_X6_cost (a1 := a1) (a2 := a2) (a3 := a3) (a4 := a4) (a5 := a5) (p8 := p8) (s8 := s8) (post := fun r => r = r6) (v6 _ rfl), rfl, ?_⟩
    rw [e2]
    have hp := bk_perm (L := cb_l q a0 a1 a2 a3 a4 a5 p8 s8 p9 AA BB s1 s2 s3 s4 s5 s6 z7) (L2 := [fo_w (a0 0) (a1 0) (a2 0) (a3 0) (a4 0) (a5 0) p8 s8, tp_w a1 q s1, bd_w a2 q s2, bd_w a3 q s3, mo_w a4 q s4, pg_w a5 q s5, pa_o p8 p9 s6, pa_r p9 q 10 AA s6.2, ps_w q 10 AA s6.2, pa_r s8 q 2 BB z7, ps_w q 2 BB z7]) [0, 1, 2, 3, 4, 5, 6, 7, 8, 9, 10] (show List.Perm _ (List.range 11) by decide) rfl rfl
    refine hp.trans ?_
    simp only [List.flatten_cons, List.flatten_nil, List.append_nil, List.append_assoc]
    exact List.Perm.refl _
  · intro sz
    refine ⟨_, _, [], _, _, _, c2_X7_cost (post := fun r u => r = r7 ∧ u = mn) (v7 _ ⟨rfl, rfl⟩), rfl, by rw [f2, List.append_nil], fun r u hu => ?_⟩
    exact ⟨_, ⟨hu.1, b, rfl, rfl⟩, by rw [List.append_nil, hu.2]⟩
set_option maxHeartbeats 4000000 in
theorem pl_best {l : Launch} {D : va_G} {q : Nat → ClassId} {h h2 : Nat} {w w2 : va_W} {s1 : Tp} {s2 s3 : Bd} {s4 : Mo} {s5 : Pg} {s6 : Pa} {z7 : Nat → Option Bd} {m : Md} {N : Int} {x1 : Int32} {x2 : Int32} (hW : c_W q h s1 s2 s3 s4 s5 s6 z7 w) (hV : m_W q h2 m w2) (hJ : JJ N s1 s2 s3 s4 s5 s6 z7 m) : ∃ (r6 r7 : Int32) (M : Int) (mn : Md), un_ri l D q 5 yX6_best cX6_best 12 (some .int) ({ frames := 3, cells := 0, slots := 0, locals := 83 } : Room) h [.int x1, .int x2] w (fun r => r = r6) ∧ un_i l D q 6 yX7_best cX7_best 9 (some .int) ({ frames := 4, cells := 0, slots := 0, locals := 95 } : Room) h2 [.int x1, .int x2] 0 0 w2 (fun r w3 => r = r7 ∧ m_W q h2 mn w3) ∧ JJ M s1 s2 s3 s4 s5 s6 z7 mn := by
  obtain ⟨a0, a1, a2, a3, a4, a5, p8, s8, p9, AA, BB, e1, e2⟩ := hW
  obtain ⟨b, f1, f2⟩ := hV
  subst e1
  subst f1
  obtain ⟨r6, r7, M, mn, v6, v7, hn⟩ := pm_best (x1 := x1) (x2 := x2) hJ
  refine ⟨r6, r7, M, mn, ?_, ?_, hn⟩
  · refine ⟨_, [bd_w a3 q s3, mo_w a4 q s4, pg_w a5 q s5, pa_o p8 p9 s6, pa_r p9 q 10 AA s6.2, ps_w q 10 AA s6.2, pa_r s8 q 2 BB z7, ps_w q 2 BB z7].flatten, _, c2_X6_best (a1 := a1) (a2 := a2) (a3 := a3) (a4 := a4) (a5 := a5) (p8 := p8) (s8 := s8) (post := fun r => r = r6) (v6 _ rfl), rfl, ?_⟩
    rw [e2]
    have hp := bk_perm (L := cb_l q a0 a1 a2 a3 a4 a5 p8 s8 p9 AA BB s1 s2 s3 s4 s5 s6 z7) (L2 := [fo_w (a0 0) (a1 0) (a2 0) (a3 0) (a4 0) (a5 0) p8 s8, tp_w a1 q s1, bd_w a2 q s2, bd_w a3 q s3, mo_w a4 q s4, pg_w a5 q s5, pa_o p8 p9 s6, pa_r p9 q 10 AA s6.2, ps_w q 10 AA s6.2, pa_r s8 q 2 BB z7, ps_w q 2 BB z7]) [0, 1, 2, 3, 4, 5, 6, 7, 8, 9, 10] (show List.Perm _ (List.range 11) by decide) rfl rfl
    refine hp.trans ?_
    simp only [List.flatten_cons, List.flatten_nil, List.append_nil, List.append_assoc]
    exact List.Perm.refl _
  · intro sz
    refine ⟨_, _, [], _, _, _, c2_X7_best (post := fun r u => r = r7 ∧ u = mn) (v7 _ ⟨rfl, rfl⟩), rfl, by rw [f2, List.append_nil], fun r u hu => ?_⟩
    exact ⟨_, ⟨hu.1, b, rfl, rfl⟩, by rw [List.append_nil, hu.2]⟩
set_option maxHeartbeats 4000000 in
theorem pl_place {l : Launch} {D : va_G} {q : Nat → ClassId} {h h2 : Nat} {w w2 : va_W} {s1 : Tp} {s2 s3 : Bd} {s4 : Mo} {s5 : Pg} {s6 : Pa} {z7 : Nat → Option Bd} {m : Md} {N : Int} {x1 : Int32} {x2 : Int32} (hW : c_W q h s1 s2 s3 s4 s5 s6 z7 w) (hV : m_W q h2 m w2) (hJ : JJ N s1 s2 s3 s4 s5 s6 z7 m) : ∃ (r6 r7 : Int32) (M : Int) (mn : Md), un_ri l D q 5 yX6_place cX6_place 10 (some .int) ({ frames := 3, cells := 0, slots := 0, locals := 83 } : Room) h [.int x1, .int x2] w (fun r => r = r6) ∧ un_i l D q 6 yX7_place cX7_place 7 (some .int) ({ frames := 4, cells := 0, slots := 0, locals := 95 } : Room) h2 [.int x1, .int x2] 0 0 w2 (fun r w3 => r = r7 ∧ m_W q h2 mn w3) ∧ JJ M s1 s2 s3 s4 s5 s6 z7 mn := by
  obtain ⟨a0, a1, a2, a3, a4, a5, p8, s8, p9, AA, BB, e1, e2⟩ := hW
  obtain ⟨b, f1, f2⟩ := hV
  subst e1
  subst f1
  obtain ⟨r6, r7, M, mn, v6, v7, hn⟩ := pm_place (x1 := x1) (x2 := x2) hJ
  refine ⟨r6, r7, M, mn, ?_, ?_, hn⟩
  · refine ⟨_, [bd_w a3 q s3, mo_w a4 q s4, pg_w a5 q s5, pa_o p8 p9 s6, pa_r p9 q 10 AA s6.2, ps_w q 10 AA s6.2, pa_r s8 q 2 BB z7, ps_w q 2 BB z7].flatten, _, c2_X6_place (a1 := a1) (a2 := a2) (a3 := a3) (a4 := a4) (a5 := a5) (p8 := p8) (s8 := s8) (post := fun r => r = r6) (v6 _ rfl), rfl, ?_⟩
    rw [e2]
    have hp := bk_perm (L := cb_l q a0 a1 a2 a3 a4 a5 p8 s8 p9 AA BB s1 s2 s3 s4 s5 s6 z7) (L2 := [fo_w (a0 0) (a1 0) (a2 0) (a3 0) (a4 0) (a5 0) p8 s8, tp_w a1 q s1, bd_w a2 q s2, bd_w a3 q s3, mo_w a4 q s4, pg_w a5 q s5, pa_o p8 p9 s6, pa_r p9 q 10 AA s6.2, ps_w q 10 AA s6.2, pa_r s8 q 2 BB z7, ps_w q 2 BB z7]) [0, 1, 2, 3, 4, 5, 6, 7, 8, 9, 10] (show List.Perm _ (List.range 11) by decide) rfl rfl
    refine hp.trans ?_
    simp only [List.flatten_cons, List.flatten_nil, List.append_nil, List.append_assoc]
    exact List.Perm.refl _
  · intro sz
    refine ⟨_, _, [], _, _, _, c2_X7_place (post := fun r u => r = r7 ∧ u = mn) (v7 _ ⟨rfl, rfl⟩), rfl, by rw [f2, List.append_nil], fun r u hu => ?_⟩
    exact ⟨_, ⟨hu.1, b, rfl, rfl⟩, by rw [List.append_nil, hu.2]⟩
set_option maxHeartbeats 4000000 in
theorem pl_log {l : Launch} {D : va_G} {q : Nat → ClassId} {h h2 : Nat} {w w2 : va_W} {s1 : Tp} {s2 s3 : Bd} {s4 : Mo} {s5 : Pg} {s6 : Pa} {z7 : Nat → Option Bd} {m : Md} {N : Int} {x1 : Int32} {x2 : Int32} (hW : c_W q h s1 s2 s3 s4 s5 s6 z7 w) (hV : m_W q h2 m w2) (hJ : JJ N s1 s2 s3 s4 s5 s6 z7 m) : ∃ (r6 r7 : Int32) (M : Int) (mn : Md), un_ri l D q 5 yX6_log cX6_log 3 (some .int) ({ frames := 3, cells := 0, slots := 0, locals := 75 } : Room) h [.int x1, .int x2] w (fun r => r = r6) ∧ un_ri l D q 6 yX7_log cX7_log 3 (some .int) ({ frames := 2, cells := 0, slots := 0, locals := 50 } : Room) h2 [.int x1, .int x2] w2 (fun r => r = r7) ∧ mn = m ∧ JJ M s1 s2 s3 s4 s5 s6 z7 mn := by
  obtain ⟨a0, a1, a2, a3, a4, a5, p8, s8, p9, AA, BB, e1, e2⟩ := hW
  obtain ⟨b, f1, f2⟩ := hV
  subst e1
  subst f1
  obtain ⟨r6, r7, M, mn, v6, v7, hn⟩ := pm_log (x1 := x1) (x2 := x2) hJ
  refine ⟨r6, r7, M, mn, ?_, ?_, hn⟩
  · refine ⟨_, [tp_w a1 q s1, bd_w a3 q s3, mo_w a4 q s4, pg_w a5 q s5, pa_o p8 p9 s6, pa_r p9 q 10 AA s6.2, ps_w q 10 AA s6.2, pa_r s8 q 2 BB z7, ps_w q 2 BB z7].flatten, _, c2_X6_log (a1 := a1) (a2 := a2) (a3 := a3) (a4 := a4) (a5 := a5) (p8 := p8) (s8 := s8) (post := fun r => r = r6) (v6 _ rfl), rfl, ?_⟩
    rw [e2]
    have hp := bk_perm (L := cb_l q a0 a1 a2 a3 a4 a5 p8 s8 p9 AA BB s1 s2 s3 s4 s5 s6 z7) (L2 := [fo_w (a0 0) (a1 0) (a2 0) (a3 0) (a4 0) (a5 0) p8 s8, bd_w a2 q s2, tp_w a1 q s1, bd_w a3 q s3, mo_w a4 q s4, pg_w a5 q s5, pa_o p8 p9 s6, pa_r p9 q 10 AA s6.2, ps_w q 10 AA s6.2, pa_r s8 q 2 BB z7, ps_w q 2 BB z7]) [0, 2, 1, 3, 4, 5, 6, 7, 8, 9, 10] (show List.Perm _ (List.range 11) by decide) rfl rfl
    refine hp.trans ?_
    simp only [List.flatten_cons, List.flatten_nil, List.append_nil, List.append_assoc]
    exact List.Perm.refl _
  · exact ⟨_, [], _, c2_X7_log (post := fun r => r = r7) (v7 _ rfl), rfl, by rw [f2, List.append_nil]⟩
set_option maxHeartbeats 4000000 in
theorem pl_often {l : Launch} {D : va_G} {q : Nat → ClassId} {h h2 : Nat} {w w2 : va_W} {s1 : Tp} {s2 s3 : Bd} {s4 : Mo} {s5 : Pg} {s6 : Pa} {z7 : Nat → Option Bd} {m : Md} {N : Int} {x1 : Int32} {x2 : Int32} {x3 : Int32} (hW : c_W q h s1 s2 s3 s4 s5 s6 z7 w) (hV : m_W q h2 m w2) (hJ : JJ N s1 s2 s3 s4 s5 s6 z7 m) : ∃ (r6 r7 : Int32) (M : Int) (mn : Md), un_ri l D q 5 yX6_often cX6_often 4 (some .int) ({ frames := 2, cells := 0, slots := 0, locals := 52 } : Room) h [.int x1, .int x2, .int x3] w (fun r => r = r6) ∧ un_ri l D q 6 yX7_often cX7_often 6 (some .int) ({ frames := 2, cells := 0, slots := 0, locals := 46 } : Room) h2 [.int x1, .int x2, .int x3] w2 (fun r => r = r7) ∧ mn = m ∧ JJ M s1 s2 s3 s4 s5 s6 z7 mn := by
  obtain ⟨a0, a1, a2, a3, a4, a5, p8, s8, p9, AA, BB, e1, e2⟩ := hW
  obtain ⟨b, f1, f2⟩ := hV
  subst e1
  subst f1
  obtain ⟨r6, r7, M, mn, v6, v7, hn⟩ := pm_often (x1 := x1) (x2 := x2) (x3 := x3) hJ
  refine ⟨r6, r7, M, mn, ?_, ?_, hn⟩
  · refine ⟨_, [tp_w a1 q s1, bd_w a3 q s3, mo_w a4 q s4, pg_w a5 q s5, pa_o p8 p9 s6, pa_r p9 q 10 AA s6.2, ps_w q 10 AA s6.2, pa_r s8 q 2 BB z7, ps_w q 2 BB z7].flatten, _, c2_X6_often (a1 := a1) (a2 := a2) (a3 := a3) (a4 := a4) (a5 := a5) (p8 := p8) (s8 := s8) (post := fun r => r = r6) (v6 _ rfl), rfl, ?_⟩
    rw [e2]
    have hp := bk_perm (L := cb_l q a0 a1 a2 a3 a4 a5 p8 s8 p9 AA BB s1 s2 s3 s4 s5 s6 z7) (L2 := [fo_w (a0 0) (a1 0) (a2 0) (a3 0) (a4 0) (a5 0) p8 s8, bd_w a2 q s2, tp_w a1 q s1, bd_w a3 q s3, mo_w a4 q s4, pg_w a5 q s5, pa_o p8 p9 s6, pa_r p9 q 10 AA s6.2, ps_w q 10 AA s6.2, pa_r s8 q 2 BB z7, ps_w q 2 BB z7]) [0, 2, 1, 3, 4, 5, 6, 7, 8, 9, 10] (show List.Perm _ (List.range 11) by decide) rfl rfl
    refine hp.trans ?_
    simp only [List.flatten_cons, List.flatten_nil, List.append_nil, List.append_assoc]
    exact List.Perm.refl _
  · exact ⟨_, [], _, c2_X7_often (post := fun r => r = r7) (v7 _ rfl), rfl, by rw [f2, List.append_nil]⟩
set_option maxHeartbeats 4000000 in
theorem pl_usual {l : Launch} {D : va_G} {q : Nat → ClassId} {h h2 : Nat} {w w2 : va_W} {s1 : Tp} {s2 s3 : Bd} {s4 : Mo} {s5 : Pg} {s6 : Pa} {z7 : Nat → Option Bd} {m : Md} {N : Int} {x1 : Int32} {x2 : Int32} (hW : c_W q h s1 s2 s3 s4 s5 s6 z7 w) (hV : m_W q h2 m w2) (hJ : JJ N s1 s2 s3 s4 s5 s6 z7 m) : ∃ (r6 r7 : Int32) (M : Int) (mn : Md), un_ri l D q 5 yX6_usual cX6_usual 7 (some .int) ({ frames := 2, cells := 0, slots := 0, locals := 52 } : Room) h [.int x1, .int x2] w (fun r => r = r6) ∧ un_ri l D q 6 yX7_usual cX7_usual 6 (some .int) ({ frames := 3, cells := 0, slots := 0, locals := 71 } : Room) h2 [.int x1, .int x2] w2 (fun r => r = r7) ∧ mn = m ∧ JJ M s1 s2 s3 s4 s5 s6 z7 mn := by
  obtain ⟨a0, a1, a2, a3, a4, a5, p8, s8, p9, AA, BB, e1, e2⟩ := hW
  obtain ⟨b, f1, f2⟩ := hV
  subst e1
  subst f1
  obtain ⟨r6, r7, M, mn, v6, v7, hn⟩ := pm_usual (x1 := x1) (x2 := x2) hJ
  refine ⟨r6, r7, M, mn, ?_, ?_, hn⟩
  · refine ⟨_, [tp_w a1 q s1, bd_w a3 q s3, mo_w a4 q s4, pg_w a5 q s5, pa_o p8 p9 s6, pa_r p9 q 10 AA s6.2, ps_w q 10 AA s6.2, pa_r s8 q 2 BB z7, ps_w q 2 BB z7].flatten, _, c2_X6_usual (a1 := a1) (a2 := a2) (a3 := a3) (a4 := a4) (a5 := a5) (p8 := p8) (s8 := s8) (post := fun r => r = r6) (v6 _ rfl), rfl, ?_⟩
    rw [e2]
    have hp := bk_perm (L := cb_l q a0 a1 a2 a3 a4 a5 p8 s8 p9 AA BB s1 s2 s3 s4 s5 s6 z7) (L2 := [fo_w (a0 0) (a1 0) (a2 0) (a3 0) (a4 0) (a5 0) p8 s8, bd_w a2 q s2, tp_w a1 q s1, bd_w a3 q s3, mo_w a4 q s4, pg_w a5 q s5, pa_o p8 p9 s6, pa_r p9 q 10 AA s6.2, ps_w q 10 AA s6.2, pa_r s8 q 2 BB z7, ps_w q 2 BB z7]) [0, 2, 1, 3, 4, 5, 6, 7, 8, 9, 10] (show List.Perm _ (List.range 11) by decide) rfl rfl
    refine hp.trans ?_
    simp only [List.flatten_cons, List.flatten_nil, List.append_nil, List.append_assoc]
    exact List.Perm.refl _
  · exact ⟨_, [], _, c2_X7_usual (post := fun r => r = r7) (v7 _ rfl), rfl, by rw [f2, List.append_nil]⟩
set_option maxHeartbeats 4000000 in
theorem pl_better {l : Launch} {D : va_G} {q : Nat → ClassId} {h h2 : Nat} {w w2 : va_W} {s1 : Tp} {s2 s3 : Bd} {s4 : Mo} {s5 : Pg} {s6 : Pa} {z7 : Nat → Option Bd} {m : Md} {N : Int} {x1 : Int32} {x2 : Int32} (hW : c_W q h s1 s2 s3 s4 s5 s6 z7 w) (hV : m_W q h2 m w2) (hJ : JJ N s1 s2 s3 s4 s5 s6 z7 m) : ∃ (r6 r7 : Int32) (M : Int) (mn : Md), un_ri l D q 5 yX6_better cX6_better 10 (some .int) ({ frames := 2, cells := 0, slots := 0, locals := 55 } : Room) h [.int x1, .int x2] w (fun r => r = r6) ∧ un_ri l D q 6 yX7_better cX7_better 9 (some .int) ({ frames := 2, cells := 0, slots := 0, locals := 50 } : Room) h2 [.int x1, .int x2] w2 (fun r => r = r7) ∧ mn = m ∧ JJ M s1 s2 s3 s4 s5 s6 z7 mn := by
  obtain ⟨a0, a1, a2, a3, a4, a5, p8, s8, p9, AA, BB, e1, e2⟩ := hW
  obtain ⟨b, f1, f2⟩ := hV
  subst e1
  subst f1
  obtain ⟨r6, r7, M, mn, v6, v7, hn⟩ := pm_better (x1 := x1) (x2 := x2) hJ
  refine ⟨r6, r7, M, mn, ?_, ?_, hn⟩
  · refine ⟨_, [tp_w a1 q s1, bd_w a3 q s3, mo_w a4 q s4, pg_w a5 q s5, pa_o p8 p9 s6, pa_r p9 q 10 AA s6.2, ps_w q 10 AA s6.2, pa_r s8 q 2 BB z7, ps_w q 2 BB z7].flatten, _, c2_X6_better (a1 := a1) (a2 := a2) (a3 := a3) (a4 := a4) (a5 := a5) (p8 := p8) (s8 := s8) (post := fun r => r = r6) (v6 _ rfl), rfl, ?_⟩
    rw [e2]
    have hp := bk_perm (L := cb_l q a0 a1 a2 a3 a4 a5 p8 s8 p9 AA BB s1 s2 s3 s4 s5 s6 z7) (L2 := [fo_w (a0 0) (a1 0) (a2 0) (a3 0) (a4 0) (a5 0) p8 s8, bd_w a2 q s2, tp_w a1 q s1, bd_w a3 q s3, mo_w a4 q s4, pg_w a5 q s5, pa_o p8 p9 s6, pa_r p9 q 10 AA s6.2, ps_w q 10 AA s6.2, pa_r s8 q 2 BB z7, ps_w q 2 BB z7]) [0, 2, 1, 3, 4, 5, 6, 7, 8, 9, 10] (show List.Perm _ (List.range 11) by decide) rfl rfl
    refine hp.trans ?_
    simp only [List.flatten_cons, List.flatten_nil, List.append_nil, List.append_assoc]
    exact List.Perm.refl _
  · exact ⟨_, [], _, c2_X7_better (post := fun r => r = r7) (v7 _ rfl), rfl, by rw [f2, List.append_nil]⟩
set_option maxHeartbeats 4000000 in
theorem pl_farthest {l : Launch} {D : va_G} {q : Nat → ClassId} {h h2 : Nat} {w w2 : va_W} {s1 : Tp} {s2 s3 : Bd} {s4 : Mo} {s5 : Pg} {s6 : Pa} {z7 : Nat → Option Bd} {m : Md} {N : Int} {x1 : Int32} {x2 : Int32} (hW : c_W q h s1 s2 s3 s4 s5 s6 z7 w) (hV : m_W q h2 m w2) (hJ : JJ N s1 s2 s3 s4 s5 s6 z7 m) : ∃ (r6 r7 : Int32) (M : Int) (mn : Md), un_ri l D q 5 yX6_farthest cX6_farthest 8 (some .int) ({ frames := 2, cells := 0, slots := 0, locals := 44 } : Room) h [.int x1, .int x2] w (fun r => r = r6) ∧ un_ri l D q 6 yX7_farthest cX7_farthest 7 (some .int) ({ frames := 3, cells := 0, slots := 0, locals := 67 } : Room) h2 [.int x1, .int x2] w2 (fun r => r = r7) ∧ mn = m ∧ JJ M s1 s2 s3 s4 s5 s6 z7 mn := by
  obtain ⟨a0, a1, a2, a3, a4, a5, p8, s8, p9, AA, BB, e1, e2⟩ := hW
  obtain ⟨b, f1, f2⟩ := hV
  subst e1
  subst f1
  obtain ⟨r6, r7, M, mn, v6, v7, hn⟩ := pm_farthest (x1 := x1) (x2 := x2) hJ
  refine ⟨r6, r7, M, mn, ?_, ?_, hn⟩
  · refine ⟨_, [tp_w a1 q s1, bd_w a3 q s3, mo_w a4 q s4, pg_w a5 q s5, pa_o p8 p9 s6, pa_r p9 q 10 AA s6.2, ps_w q 10 AA s6.2, pa_r s8 q 2 BB z7, ps_w q 2 BB z7].flatten, _, c2_X6_farthest (a1 := a1) (a2 := a2) (a3 := a3) (a4 := a4) (a5 := a5) (p8 := p8) (s8 := s8) (post := fun r => r = r6) (v6 _ rfl), rfl, ?_⟩
    rw [e2]
    have hp := bk_perm (L := cb_l q a0 a1 a2 a3 a4 a5 p8 s8 p9 AA BB s1 s2 s3 s4 s5 s6 z7) (L2 := [fo_w (a0 0) (a1 0) (a2 0) (a3 0) (a4 0) (a5 0) p8 s8, bd_w a2 q s2, tp_w a1 q s1, bd_w a3 q s3, mo_w a4 q s4, pg_w a5 q s5, pa_o p8 p9 s6, pa_r p9 q 10 AA s6.2, ps_w q 10 AA s6.2, pa_r s8 q 2 BB z7, ps_w q 2 BB z7]) [0, 2, 1, 3, 4, 5, 6, 7, 8, 9, 10] (show List.Perm _ (List.range 11) by decide) rfl rfl
    refine hp.trans ?_
    simp only [List.flatten_cons, List.flatten_nil, List.append_nil, List.append_assoc]
    exact List.Perm.refl _
  · exact ⟨_, [], _, c2_X7_farthest (post := fun r => r = r7) (v7 _ rfl), rfl, by rw [f2, List.append_nil]⟩
set_option maxHeartbeats 4000000 in
theorem pl_lacks {l : Launch} {D : va_G} {q : Nat → ClassId} {h h2 : Nat} {w w2 : va_W} {s1 : Tp} {s2 s3 : Bd} {s4 : Mo} {s5 : Pg} {s6 : Pa} {z7 : Nat → Option Bd} {m : Md} {N : Int} {x1 : Int32} {x2 : Int32} (hW : c_W q h s1 s2 s3 s4 s5 s6 z7 w) (hV : m_W q h2 m w2) (hJ : JJ N s1 s2 s3 s4 s5 s6 z7 m) : ∃ (r6 r7 : Int32) (M : Int) (mn : Md), un_ri l D q 5 yX6_lacks cX6_lacks 3 (some .int) ({ frames := 5, cells := 0, slots := 0, locals := 115 } : Room) h [.int x1, .int x2] w (fun r => r = r6) ∧ un_ri l D q 6 yX7_lacks cX7_lacks 6 (some .int) ({ frames := 3, cells := 0, slots := 0, locals := 69 } : Room) h2 [.int x1, .int x2] w2 (fun r => r = r7) ∧ mn = m ∧ JJ M s1 s2 s3 s4 s5 s6 z7 mn ∧ r6 = r7 := by
  obtain ⟨a0, a1, a2, a3, a4, a5, p8, s8, p9, AA, BB, e1, e2⟩ := hW
  obtain ⟨b, f1, f2⟩ := hV
  subst e1
  subst f1
  obtain ⟨r6, r7, M, mn, v6, v7, hn⟩ := pm_lacks (x1 := x1) (x2 := x2) hJ
  refine ⟨r6, r7, M, mn, ?_, ?_, hn⟩
  · refine ⟨_, [tp_w a1 q s1, bd_w a3 q s3, mo_w a4 q s4, pg_w a5 q s5, pa_o p8 p9 s6, pa_r p9 q 10 AA s6.2, ps_w q 10 AA s6.2, pa_r s8 q 2 BB z7, ps_w q 2 BB z7].flatten, _, c2_X6_lacks (a1 := a1) (a2 := a2) (a3 := a3) (a4 := a4) (a5 := a5) (p8 := p8) (s8 := s8) (post := fun r => r = r6) (v6 _ rfl), rfl, ?_⟩
    rw [e2]
    have hp := bk_perm (L := cb_l q a0 a1 a2 a3 a4 a5 p8 s8 p9 AA BB s1 s2 s3 s4 s5 s6 z7) (L2 := [fo_w (a0 0) (a1 0) (a2 0) (a3 0) (a4 0) (a5 0) p8 s8, bd_w a2 q s2, tp_w a1 q s1, bd_w a3 q s3, mo_w a4 q s4, pg_w a5 q s5, pa_o p8 p9 s6, pa_r p9 q 10 AA s6.2, ps_w q 10 AA s6.2, pa_r s8 q 2 BB z7, ps_w q 2 BB z7]) [0, 2, 1, 3, 4, 5, 6, 7, 8, 9, 10] (show List.Perm _ (List.range 11) by decide) rfl rfl
    refine hp.trans ?_
    simp only [List.flatten_cons, List.flatten_nil, List.append_nil, List.append_assoc]
    exact List.Perm.refl _
  · exact ⟨_, [], _, c2_X7_lacks (post := fun r => r = r7) (v7 _ rfl), rfl, by rw [f2, List.append_nil]⟩
set_option maxHeartbeats 4000000 in
theorem pl_rests {l : Launch} {D : va_G} {q : Nat → ClassId} {h h2 : Nat} {w w2 : va_W} {s1 : Tp} {s2 s3 : Bd} {s4 : Mo} {s5 : Pg} {s6 : Pa} {z7 : Nat → Option Bd} {m : Md} {N : Int} {x1 : Int32} (hW : c_W q h s1 s2 s3 s4 s5 s6 z7 w) (hV : m_W q h2 m w2) (hJ : JJ N s1 s2 s3 s4 s5 s6 z7 m) : ∃ (r6 r7 : Int32) (M : Int) (s3n : Bd) (s4n : Mo) (mn : Md), un_i l D q 5 yX6_rests cX6_rests 3 (some .int) ({ frames := 4, cells := 0, slots := 0, locals := 114 } : Room) h [.int x1] 0 0 w (fun r w3 => r = r6 ∧ c_W q h s1 s2 s3n s4n s5 s6 z7 w3) ∧ un_i l D q 6 yX7_rests cX7_rests 4 (some .int) ({ frames := 5, cells := 0, slots := 0, locals := 110 } : Room) h2 [.int x1] 0 0 w2 (fun r w3 => r = r7 ∧ m_W q h2 mn w3) ∧ JJ M s1 s2 s3n s4n s5 s6 z7 mn := by
  obtain ⟨a0, a1, a2, a3, a4, a5, p8, s8, p9, AA, BB, e1, e2⟩ := hW
  obtain ⟨b, f1, f2⟩ := hV
  subst e1
  subst f1
  obtain ⟨r6, r7, M, s3n, s4n, mn, v6, v7, hn⟩ := pm_rests (x1 := x1) hJ
  refine ⟨r6, r7, M, s3n, s4n, mn, ?_, ?_, hn⟩
  · intro sz
    refine ⟨_, _, [tp_w a1 q s1, pg_w a5 q s5, pa_o p8 p9 s6, pa_r p9 q 10 AA s6.2, ps_w q 10 AA s6.2, pa_r s8 q 2 BB z7, ps_w q 2 BB z7].flatten, _, _, _, c2_X6_rests (a1 := a1) (a2 := a2) (a3 := a3) (a4 := a4) (a5 := a5) (p8 := p8) (s8 := s8) (post := fun r y_s3 y_s4 => r = r6 ∧ y_s3 = s3n ∧ y_s4 = s4n) (v6 _ ⟨rfl, rfl, rfl⟩), rfl, ?_, fun r u hu => ?_⟩
    · rw [e2]
      have hp := bk_perm (L := cb_l q a0 a1 a2 a3 a4 a5 p8 s8 p9 AA BB s1 s2 s3 s4 s5 s6 z7) (L2 := [fo_w (a0 0) (a1 0) (a2 0) (a3 0) (a4 0) (a5 0) p8 s8, bd_w a2 q s2, bd_w a3 q s3, mo_w a4 q s4, tp_w a1 q s1, pg_w a5 q s5, pa_o p8 p9 s6, pa_r p9 q 10 AA s6.2, ps_w q 10 AA s6.2, pa_r s8 q 2 BB z7, ps_w q 2 BB z7]) [0, 2, 3, 4, 1, 5, 6, 7, 8, 9, 10] (show List.Perm _ (List.range 11) by decide) rfl rfl
      refine hp.trans ?_
      simp only [List.flatten_cons, List.flatten_nil, List.append_nil, List.append_assoc]
      exact List.Perm.refl _
    · obtain ⟨hr, g_s3, g_s4⟩ := hu
      refine ⟨_, ⟨hr, a0, a1, a2, a3, a4, a5, p8, s8, p9, AA, BB, rfl, rfl⟩, ?_⟩
      rw [← g_s3, ← g_s4]
      have hp := bk_perm (L := cb_l q a0 a1 a2 a3 a4 a5 p8 s8 p9 AA BB s1 s2 u.1 u.2 s5 s6 z7) (L2 := [fo_w (a0 0) (a1 0) (a2 0) (a3 0) (a4 0) (a5 0) p8 s8, bd_w a2 q s2, bd_w a3 q u.1, mo_w a4 q u.2, tp_w a1 q s1, pg_w a5 q s5, pa_o p8 p9 s6, pa_r p9 q 10 AA s6.2, ps_w q 10 AA s6.2, pa_r s8 q 2 BB z7, ps_w q 2 BB z7]) [0, 2, 3, 4, 1, 5, 6, 7, 8, 9, 10] (show List.Perm _ (List.range 11) by decide) rfl rfl
      refine List.Perm.symm (hp.trans ?_)
      simp only [List.flatten_cons, List.flatten_nil, List.append_nil, List.append_assoc]
      exact List.Perm.refl _
  · intro sz
    refine ⟨_, _, [], _, _, _, c2_X7_rests (post := fun r u => r = r7 ∧ u = mn) (v7 _ ⟨rfl, rfl⟩), rfl, by rw [f2, List.append_nil], fun r u hu => ?_⟩
    exact ⟨_, ⟨hu.1, b, rfl, rfl⟩, by rw [List.append_nil, hu.2]⟩
set_option maxHeartbeats 4000000 in
theorem pl_unlike {l : Launch} {D : va_G} {q : Nat → ClassId} {h h2 : Nat} {w w2 : va_W} {s1 : Tp} {s2 s3 : Bd} {s4 : Mo} {s5 : Pg} {s6 : Pa} {z7 : Nat → Option Bd} {m : Md} {N : Int} {x1 : Int32} {x2 : Int32} (hW : c_W q h s1 s2 s3 s4 s5 s6 z7 w) (hV : m_W q h2 m w2) (hJ : JJ N s1 s2 s3 s4 s5 s6 z7 m) : ∃ (r6 r7 : Int32) (M : Int) (mn : Md), un_ri l D q 5 yX6_unlike cX6_unlike 7 (some .int) ({ frames := 3, cells := 0, slots := 0, locals := 65 } : Room) h [.int x1, .int x2] w (fun r => r = r6) ∧ un_ri l D q 6 yX7_unlike cX7_unlike 5 (some .int) ({ frames := 2, cells := 0, slots := 0, locals := 46 } : Room) h2 [.int x1, .int x2] w2 (fun r => r = r7) ∧ mn = m ∧ JJ M s1 s2 s3 s4 s5 s6 z7 mn := by
  obtain ⟨a0, a1, a2, a3, a4, a5, p8, s8, p9, AA, BB, e1, e2⟩ := hW
  obtain ⟨b, f1, f2⟩ := hV
  subst e1
  subst f1
  obtain ⟨r6, r7, M, mn, v6, v7, hn⟩ := pm_unlike (x1 := x1) (x2 := x2) hJ
  refine ⟨r6, r7, M, mn, ?_, ?_, hn⟩
  · refine ⟨_, [tp_w a1 q s1, bd_w a3 q s3, mo_w a4 q s4, pg_w a5 q s5, pa_o p8 p9 s6, pa_r p9 q 10 AA s6.2, ps_w q 10 AA s6.2, pa_r s8 q 2 BB z7, ps_w q 2 BB z7].flatten, _, c2_X6_unlike (a1 := a1) (a2 := a2) (a3 := a3) (a4 := a4) (a5 := a5) (p8 := p8) (s8 := s8) (post := fun r => r = r6) (v6 _ rfl), rfl, ?_⟩
    rw [e2]
    have hp := bk_perm (L := cb_l q a0 a1 a2 a3 a4 a5 p8 s8 p9 AA BB s1 s2 s3 s4 s5 s6 z7) (L2 := [fo_w (a0 0) (a1 0) (a2 0) (a3 0) (a4 0) (a5 0) p8 s8, bd_w a2 q s2, tp_w a1 q s1, bd_w a3 q s3, mo_w a4 q s4, pg_w a5 q s5, pa_o p8 p9 s6, pa_r p9 q 10 AA s6.2, ps_w q 10 AA s6.2, pa_r s8 q 2 BB z7, ps_w q 2 BB z7]) [0, 2, 1, 3, 4, 5, 6, 7, 8, 9, 10] (show List.Perm _ (List.range 11) by decide) rfl rfl
    refine hp.trans ?_
    simp only [List.flatten_cons, List.flatten_nil, List.append_nil, List.append_assoc]
    exact List.Perm.refl _
  · exact ⟨_, [], _, c2_X7_unlike (post := fun r => r = r7) (v7 _ rfl), rfl, by rw [f2, List.append_nil]⟩
set_option maxHeartbeats 4000000 in
theorem pl_letter {l : Launch} {D : va_G} {q : Nat → ClassId} {h h2 : Nat} {w w2 : va_W} {s1 : Tp} {s2 s3 : Bd} {s4 : Mo} {s5 : Pg} {s6 : Pa} {z7 : Nat → Option Bd} {m : Md} {N : Int} {x1 : Int32} {x2 : Int32} (hW : c_W q h s1 s2 s3 s4 s5 s6 z7 w) (hV : m_W q h2 m w2) (hJ : JJ N s1 s2 s3 s4 s5 s6 z7 m) : ∃ (r6 r7 : Int32) (M : Int) (mn : Md), un_ri l D q 5 yX6_letter cX6_letter 6 (some .int) ({ frames := 2, cells := 0, slots := 0, locals := 44 } : Room) h [.int x1, .int x2] w (fun r => r = r6) ∧ un_ri l D q 6 yX7_letter cX7_letter 5 (some .int) ({ frames := 2, cells := 0, slots := 0, locals := 44 } : Room) h2 [.int x1, .int x2] w2 (fun r => r = r7) ∧ mn = m ∧ JJ M s1 s2 s3 s4 s5 s6 z7 mn := by
  obtain ⟨a0, a1, a2, a3, a4, a5, p8, s8, p9, AA, BB, e1, e2⟩ := hW
  obtain ⟨b, f1, f2⟩ := hV
  subst e1
  subst f1
  obtain ⟨r6, r7, M, mn, v6, v7, hn⟩ := pm_letter (x1 := x1) (x2 := x2) hJ
  refine ⟨r6, r7, M, mn, ?_, ?_, hn⟩
  · refine ⟨_, [tp_w a1 q s1, bd_w a3 q s3, mo_w a4 q s4, pg_w a5 q s5, pa_o p8 p9 s6, pa_r p9 q 10 AA s6.2, ps_w q 10 AA s6.2, pa_r s8 q 2 BB z7, ps_w q 2 BB z7].flatten, _, c2_X6_letter (a1 := a1) (a2 := a2) (a3 := a3) (a4 := a4) (a5 := a5) (p8 := p8) (s8 := s8) (post := fun r => r = r6) (v6 _ rfl), rfl, ?_⟩
    rw [e2]
    have hp := bk_perm (L := cb_l q a0 a1 a2 a3 a4 a5 p8 s8 p9 AA BB s1 s2 s3 s4 s5 s6 z7) (L2 := [fo_w (a0 0) (a1 0) (a2 0) (a3 0) (a4 0) (a5 0) p8 s8, bd_w a2 q s2, tp_w a1 q s1, bd_w a3 q s3, mo_w a4 q s4, pg_w a5 q s5, pa_o p8 p9 s6, pa_r p9 q 10 AA s6.2, ps_w q 10 AA s6.2, pa_r s8 q 2 BB z7, ps_w q 2 BB z7]) [0, 2, 1, 3, 4, 5, 6, 7, 8, 9, 10] (show List.Perm _ (List.range 11) by decide) rfl rfl
    refine hp.trans ?_
    simp only [List.flatten_cons, List.flatten_nil, List.append_nil, List.append_assoc]
    exact List.Perm.refl _
  · exact ⟨_, [], _, c2_X7_letter (post := fun r => r = r7) (v7 _ rfl), rfl, by rw [f2, List.append_nil]⟩
set_option maxHeartbeats 4000000 in
theorem pl_digest {l : Launch} {D : va_G} {q : Nat → ClassId} {h h2 : Nat} {w w2 : va_W} {s1 : Tp} {s2 s3 : Bd} {s4 : Mo} {s5 : Pg} {s6 : Pa} {z7 : Nat → Option Bd} {m : Md} {N : Int}  (hW : c_W q h s1 s2 s3 s4 s5 s6 z7 w) (hV : m_W q h2 m w2) (hJ : JJ N s1 s2 s3 s4 s5 s6 z7 m) : ∃ (r6 r7 : Int64) (M : Int) (mn : Md), un_rl l D q 5 yX6_digest cX6_digest 4 (some .long) ({ frames := 1, cells := 0, slots := 0, locals := 20 } : Room) h [] w (fun r => r = r6) ∧ un_rl l D q 6 yX7_digest cX7_digest 5 (some .long) ({ frames := 2, cells := 0, slots := 0, locals := 40 } : Room) h2 [] w2 (fun r => r = r7) ∧ mn = m ∧ JJ M s1 s2 s3 s4 s5 s6 z7 mn := by
  obtain ⟨a0, a1, a2, a3, a4, a5, p8, s8, p9, AA, BB, e1, e2⟩ := hW
  obtain ⟨b, f1, f2⟩ := hV
  subst e1
  subst f1
  obtain ⟨r6, r7, M, mn, v6, v7, hn⟩ := pm_digest  hJ
  refine ⟨r6, r7, M, mn, ?_, ?_, hn⟩
  · refine ⟨_, [tp_w a1 q s1, bd_w a3 q s3, mo_w a4 q s4, pg_w a5 q s5, pa_o p8 p9 s6, pa_r p9 q 10 AA s6.2, ps_w q 10 AA s6.2, pa_r s8 q 2 BB z7, ps_w q 2 BB z7].flatten, _, c2_X6_digest (a1 := a1) (a2 := a2) (a3 := a3) (a4 := a4) (a5 := a5) (p8 := p8) (s8 := s8) (post := fun r => r = r6) (v6 _ rfl), rfl, ?_⟩
    rw [e2]
    have hp := bk_perm (L := cb_l q a0 a1 a2 a3 a4 a5 p8 s8 p9 AA BB s1 s2 s3 s4 s5 s6 z7) (L2 := [fo_w (a0 0) (a1 0) (a2 0) (a3 0) (a4 0) (a5 0) p8 s8, bd_w a2 q s2, tp_w a1 q s1, bd_w a3 q s3, mo_w a4 q s4, pg_w a5 q s5, pa_o p8 p9 s6, pa_r p9 q 10 AA s6.2, ps_w q 10 AA s6.2, pa_r s8 q 2 BB z7, ps_w q 2 BB z7]) [0, 2, 1, 3, 4, 5, 6, 7, 8, 9, 10] (show List.Perm _ (List.range 11) by decide) rfl rfl
    refine hp.trans ?_
    simp only [List.flatten_cons, List.flatten_nil, List.append_nil, List.append_assoc]
    exact List.Perm.refl _
  · exact ⟨_, [], _, c2_X7_digest (post := fun r => r = r7) (v7 _ rfl), rfl, by rw [f2, List.append_nil]⟩
set_option maxHeartbeats 4000000 in
theorem pl_count {l : Launch} {D : va_G} {q : Nat → ClassId} {h h2 : Nat} {w w2 : va_W} {s1 : Tp} {s2 s3 : Bd} {s4 : Mo} {s5 : Pg} {s6 : Pa} {z7 : Nat → Option Bd} {m : Md} {N : Int} {x1 : Int32} (hW : c_W q h s1 s2 s3 s4 s5 s6 z7 w) (hV : m_W q h2 m w2) (hJ : JJ N s1 s2 s3 s4 s5 s6 z7 m) : ∃ (r6 r7 : Int32) (M : Int) (s4n : Mo) (s6n : Pa) (mn : Md), un_i l D q 5 yX6_count cX6_count 2 (some .int) ({ frames := 3, cells := 0, slots := 0, locals := 90 } : Room) h [.int x1] 0 0 w (fun r w3 => r = r6 ∧ c_W q h s1 s2 s3 s4n s5 s6n z7 w3) ∧ un_i l D q 6 yX7_count cX7_count 2 (some .int) ({ frames := 4, cells := 0, slots := 0, locals := 89 } : Room) h2 [.int x1] 0 0 w2 (fun r w3 => r = r7 ∧ m_W q h2 mn w3) ∧ s6n.2 = s6.2 ∧ JJ M s1 s2 s3 s4n s5 s6n z7 mn := by
  obtain ⟨a0, a1, a2, a3, a4, a5, p8, s8, p9, AA, BB, e1, e2⟩ := hW
  obtain ⟨b, f1, f2⟩ := hV
  subst e1
  subst f1
  obtain ⟨r6, r7, M, s4n, s6n, mn, v6, v7, hn⟩ := pm_count (x1 := x1) hJ
  refine ⟨r6, r7, M, s4n, s6n, mn, ?_, ?_, hn⟩
  · intro sz
    refine ⟨_, _, [bd_w a3 q s3, pg_w a5 q s5, pa_r p9 q 10 AA s6.2, ps_w q 10 AA s6.2, ps_w q 2 BB z7].flatten, _, _, _, c2_X6_count (a1 := a1) (a2 := a2) (a3 := a3) (a4 := a4) (a5 := a5) (p8 := p8) (s8 := s8) (p9 := p9) (z7 := z7) (AA := BB) (post := fun r y_s4 y_s6 => r = r6 ∧ y_s4 = s4n ∧ y_s6 = s6n) (v6 _ ⟨rfl, rfl, rfl⟩), rfl, ?_, fun r u hu => ?_⟩
    · rw [e2]
      have hp := bk_perm (L := cb_l q a0 a1 a2 a3 a4 a5 p8 s8 p9 AA BB s1 s2 s3 s4 s5 s6 z7) (L2 := [fo_w (a0 0) (a1 0) (a2 0) (a3 0) (a4 0) (a5 0) p8 s8, tp_w a1 q s1, bd_w a2 q s2, mo_w a4 q s4, pa_o p8 p9 s6, pa_r s8 q 2 BB z7, bd_w a3 q s3, pg_w a5 q s5, pa_r p9 q 10 AA s6.2, ps_w q 10 AA s6.2, ps_w q 2 BB z7]) [0, 1, 2, 4, 6, 9, 3, 5, 7, 8, 10] (show List.Perm _ (List.range 11) by decide) rfl rfl
      refine hp.trans ?_
      simp only [List.flatten_cons, List.flatten_nil, List.append_nil, List.append_assoc]
      exact List.Perm.refl _
    · obtain ⟨hr, g_s4, g_s6⟩ := hu
      refine ⟨_, ⟨hr, a0, a1, a2, a3, a4, a5, p8, s8, p9, AA, BB, rfl, rfl⟩, ?_⟩
      rw [← g_s4, ← g_s6]
      have hp := bk_perm (L := cb_l q a0 a1 a2 a3 a4 a5 p8 s8 p9 AA BB s1 s2 s3 u.1 s5 u.2 z7) (L2 := [fo_w (a0 0) (a1 0) (a2 0) (a3 0) (a4 0) (a5 0) p8 s8, tp_w a1 q s1, bd_w a2 q s2, mo_w a4 q u.1, pa_o p8 p9 u.2, pa_r s8 q 2 BB z7, bd_w a3 q s3, pg_w a5 q s5, pa_r p9 q 10 AA u.2.2, ps_w q 10 AA u.2.2, ps_w q 2 BB z7]) [0, 1, 2, 4, 6, 9, 3, 5, 7, 8, 10] (show List.Perm _ (List.range 11) by decide) rfl rfl
      refine List.Perm.symm (hp.trans ?_)
      simp only [List.flatten_cons, List.flatten_nil, List.append_nil, List.append_assoc]
      rw [show u.2.2 = s6.2 from (congrArg Prod.snd g_s6).trans hn.1]
  · intro sz
    refine ⟨_, _, [], _, _, _, c2_X7_count (post := fun r u => r = r7 ∧ u = mn) (v7 _ ⟨rfl, rfl⟩), rfl, by rw [f2, List.append_nil], fun r u hu => ?_⟩
    exact ⟨_, ⟨hu.1, b, rfl, rfl⟩, by rw [List.append_nil, hu.2]⟩

def zT : Tp := (fun _ => 0, fun _ => 0)
def zO : Mo := (fun _ => 0, fun _ _ => 0)
def zG : Pg := (fun _ => 0, fun _ _ => 0)
def zA : Pa := (fun _ => 0, fun _ => none)
def zS : Nat → Option Bd := fun _ => none
def zM : Md := (fun _ => 0, 0, fun _ _ => 0, fun _ _ => 0)
theorem fresh_cW (a : Nat → Nat) (q : Nat → ClassId) : c_W q (a 0) zT fr_B fr_B zO zG zA zS (fb_w a q) := ⟨a, fun k => a (1 + k), fun k => a (3 + k), fun k => a (16 + k), fun k => a (29 + k), fun k => a (33 + k), a 41, a 43, a 42, fun _ _ => 0, fun _ _ => 0, rfl, rfl⟩
theorem fresh_mW (b : Nat → Nat) (q : Nat → ClassId) : ∃ w, m_W q (b 0) zM w ∧ List.Perm (md_w b q) w := by
  refine ⟨md_v (fun k => if k = 4 then b 5 else if k = 5 then b 4 else b k) q zM, ⟨(fun k => if k = 4 then b 5 else if k = 5 then b 4 else b k), rfl, rfl⟩, ?_⟩
  exact List.Perm.cons _ (List.Perm.cons _ (List.Perm.cons _ (List.Perm.cons _ (List.Perm.swap _ _ _))))
theorem fresh_ok : cs_ok 0 zT fr_B fr_B zO zG zA zS := by
  have e : (0 : Int32).toInt = 0 := rfl
  refine ⟨⟨e, by omega⟩, ⟨0, 0, fr_bi⟩, ⟨0, 0, fr_bi⟩, ⟨?_, fr_ar (by omega) (by omega), fr_ar (by omega) (by omega), fr_ar (by omega) (by omega)⟩, ⟨?_, fr_ar (by omega) (by omega)⟩, ⟨?_, fun k B h => by cases h⟩, fun k B h => by cases h⟩
  · show 0 ≤ (0 : Int32).toInt ∧ (0 : Int32).toInt ≤ 40
    omega
  · show 0 ≤ (0 : Int32).toInt ∧ (0 : Int32).toInt ≤ 3 ∧ 0 ≤ (0 : Int32).toInt ∧ (0 : Int32).toInt ≤ 80
    omega
  · show 0 ≤ (0 : Int32).toInt ∧ (0 : Int32).toInt ≤ 10 ∧ 0 ≤ (0 : Int32).toInt ∧ (0 : Int32).toInt ≤ 9
    omega
theorem fresh_mb : mb 0 0 0 0 zM := by
  have e : (0 : Int32).toInt = 0 := rfl
  have z : rw_ok 0 0 0 (fun _ => (0 : Int64)) := rw_zero (fun _ _ => rfl)
  refine ⟨e, ?_, by omega, by omega, z, fun k hk => ?_, fun k _ hk => absurd rfl hk, ⟨0, 0, 0, z, Or.inl (by omega)⟩⟩
  · show 0 ≤ (0 : Int32).toInt ∧ (0 : Int32).toInt ≤ 10
    omega
  · have : (k : Int) < (0 : Int32).toInt := hk
    omega
theorem fresh_J : JJ 0 zT fr_B fr_B zO zG zA zS zM := by
  refine ⟨fresh_ok, ⟨0, 0, 0, fresh_mb, Or.inl (by omega)⟩, ⟨rfl, funext (fun k => ?_), ?_, ?_, fun k => ?_⟩, ?_, ⟨rfl, fun j hj => ?_⟩, fun k hk => Or.inl ⟨rfl, rfl⟩⟩
  · show (0 : Int32) = (0 : Int32) &&& 255
    decide
  · show (0 : Int) ≤ (0 : Int32).toInt
    decide
  · show (0 : Int32).toInt ≤ (400 : Int)
    decide
  · show (-128 : Int) ≤ (0 : Int32).toInt ∧ (0 : Int32).toInt ≤ (127 : Int)
    decide
  · refine ⟨⟨rfl, rfl, rfl, rfl⟩, ⟨?_, fun d hd => ?_⟩, fun c hc => ?_⟩
    · exact ⟨(by show (0 : Int64).toInt ≤ 4; decide), Or.inl (by show (0 : Int64).toInt ≤ 0; decide)⟩
    · exfalso
      have hd : (d : Int) < (0 : Int64).toInt := hd
      have e : (0 : Int64).toInt = 0 := rfl
      omega
    · exfalso
      have hc : (c : Int) < (0 : Int64).toInt * (0 : Int64).toInt := hc
      have e : (0 : Int64).toInt = 0 := rfl
      rw [e] at hc
      omega
  · exfalso
    have hj : (j : Int) < (0 : Int32).toInt := hj
    have e : (0 : Int32).toInt = 0 := rfl
    omega

theorem mw_114 : Cond.classLink RL 7 RX6 ∈ w_all := w_inT w_s1 17 rfl rfl
theorem mw_115 : Cond.instantiable RX6 7 ∈ w_all := w_inT w_s1 18 rfl rfl
theorem mw_116 : Cond.methodLink RL 9 yX6_init ∈ w_all := w_inT w_s1 19 rfl rfl
theorem mw_117 : Cond.instanceMethod yX6_init ∈ w_all := w_inT w_s1 20 rfl rfl
theorem mw_118 : Cond.code yX6_init cX6_init 1 none ∈ w_all := w_inT w_s1 21 rfl rfl
theorem mw_377 : Cond.methodLink RL 13 yX6_feed ∈ w_all := w_inT w_s2 40 rfl rfl
theorem mw_378 : Cond.instanceMethod yX6_feed ∈ w_all := w_inT w_s2 41 rfl rfl
theorem mw_379 : Cond.selects RX6 yX6_feed yX6_feed ∈ w_all := w_inT w_s2 42 rfl rfl
theorem mw_380 : Cond.code yX6_feed cX6_feed 6 (some .int) ∈ w_all := w_inT w_s2 43 rfl rfl
theorem mw_385 : Cond.methodLink RL 18 yX6_end ∈ w_all := w_inT w_s2 48 rfl rfl
theorem mw_386 : Cond.instanceMethod yX6_end ∈ w_all := w_inT w_s2 49 rfl rfl
theorem mw_387 : Cond.selects RX6 yX6_end yX6_end ∈ w_all := w_inT w_s2 50 rfl rfl
theorem mw_388 : Cond.code yX6_end cX6_end 2 (some .int) ∈ w_all := w_inT w_s2 51 rfl rfl
theorem mw_389 : Cond.methodLink RL 23 yX6_tell ∈ w_all := w_inT w_s2 52 rfl rfl
theorem mw_390 : Cond.instanceMethod yX6_tell ∈ w_all := w_inT w_s2 53 rfl rfl
theorem mw_391 : Cond.selects RX6 yX6_tell yX6_tell ∈ w_all := w_inT w_s2 54 rfl rfl
theorem mw_392 : Cond.code yX6_tell cX6_tell 1 (some .int) ∈ w_all := w_inT w_s2 55 rfl rfl
theorem mw_613 : Cond.methodLink RL 28 yX6_row ∈ w_all := w_inT w_s3 36 rfl rfl
theorem mw_614 : Cond.instanceMethod yX6_row ∈ w_all := w_inT w_s3 37 rfl rfl
theorem mw_615 : Cond.selects RX6 yX6_row yX6_row ∈ w_all := w_inT w_s3 38 rfl rfl
theorem mw_616 : Cond.code yX6_row cX6_row 3 (some .int) ∈ w_all := w_inT w_s3 39 rfl rfl
theorem mw_652 : Cond.methodLink RL 32 yX6_scroll ∈ w_all := w_inT w_s3 75 rfl rfl
theorem mw_653 : Cond.instanceMethod yX6_scroll ∈ w_all := w_inT w_s3 76 rfl rfl
theorem mw_654 : Cond.selects RX6 yX6_scroll yX6_scroll ∈ w_all := w_inT w_s3 77 rfl rfl
theorem mw_655 : Cond.code yX6_scroll cX6_scroll 2 (some .int) ∈ w_all := w_inT w_s3 78 rfl rfl
theorem mw_673 : Cond.methodLink RL 36 yX6_tick ∈ w_all := w_inT w_s3 96 rfl rfl
theorem mw_674 : Cond.instanceMethod yX6_tick ∈ w_all := w_inT w_s3 97 rfl rfl
theorem mw_675 : Cond.selects RX6 yX6_tick yX6_tick ∈ w_all := w_inT w_s3 98 rfl rfl
theorem mw_676 : Cond.code yX6_tick cX6_tick 2 (some .int) ∈ w_all := w_inT w_s3 99 rfl rfl
theorem mw_721 : Cond.methodLink RL 40 yX6_settle ∈ w_all := w_inT w_s3 144 rfl rfl
theorem mw_722 : Cond.instanceMethod yX6_settle ∈ w_all := w_inT w_s3 145 rfl rfl
theorem mw_723 : Cond.selects RX6 yX6_settle yX6_settle ∈ w_all := w_inT w_s3 146 rfl rfl
theorem mw_724 : Cond.code yX6_settle cX6_settle 1 (some .int) ∈ w_all := w_inT w_s3 147 rfl rfl
theorem mw_726 : Cond.methodLink RL 44 yX6_lose ∈ w_all := w_inT w_s3 149 rfl rfl
theorem mw_727 : Cond.instanceMethod yX6_lose ∈ w_all := w_inT w_s3 150 rfl rfl
theorem mw_728 : Cond.selects RX6 yX6_lose yX6_lose ∈ w_all := w_inT w_s3 151 rfl rfl
theorem mw_729 : Cond.code yX6_lose cX6_lose 4 (some .int) ∈ w_all := w_inT w_s3 152 rfl rfl
theorem mw_732 : Cond.methodLink RL 49 yX6_wear ∈ w_all := w_inT w_s3 155 rfl rfl
theorem mw_733 : Cond.instanceMethod yX6_wear ∈ w_all := w_inT w_s3 156 rfl rfl
theorem mw_734 : Cond.selects RX6 yX6_wear yX6_wear ∈ w_all := w_inT w_s3 157 rfl rfl

theorem mw_735 : Cond.code yX6_wear cX6_wear 3 (some .int) ∈ w_all := w_inT w_s3 158 rfl rfl
theorem mw_752 : Cond.methodLink RL 53 yX6_mend ∈ w_all := w_inT w_s3 175 rfl rfl
theorem mw_753 : Cond.instanceMethod yX6_mend ∈ w_all := w_inT w_s3 176 rfl rfl
theorem mw_754 : Cond.selects RX6 yX6_mend yX6_mend ∈ w_all := w_inT w_s3 177 rfl rfl
theorem mw_755 : Cond.code yX6_mend cX6_mend 3 (some .int) ∈ w_all := w_inT w_s3 178 rfl rfl
theorem mw_760 : Cond.methodLink RL 57 yX6_limit ∈ w_all := w_inT w_s3 183 rfl rfl
theorem mw_761 : Cond.instanceMethod yX6_limit ∈ w_all := w_inT w_s3 184 rfl rfl
theorem mw_762 : Cond.selects RX6 yX6_limit yX6_limit ∈ w_all := w_inT w_s3 185 rfl rfl
theorem mw_763 : Cond.code yX6_limit cX6_limit 3 (some .int) ∈ w_all := w_inT w_s3 186 rfl rfl
theorem mw_764 : Cond.methodLink RL 61 yX6_exchange ∈ w_all := w_inT w_s3 187 rfl rfl
theorem mw_765 : Cond.instanceMethod yX6_exchange ∈ w_all := w_inT w_s3 188 rfl rfl
theorem mw_766 : Cond.selects RX6 yX6_exchange yX6_exchange ∈ w_all := w_inT w_s3 189 rfl rfl
theorem mw_767 : Cond.code yX6_exchange cX6_exchange 4 (some .int) ∈ w_all := w_inT w_s3 190 rfl rfl
theorem mw_781 : Cond.methodLink RL 66 yX6_run ∈ w_all := w_inT w_s3 204 rfl rfl
theorem mw_782 : Cond.instanceMethod yX6_run ∈ w_all := w_inT w_s3 205 rfl rfl
theorem mw_783 : Cond.selects RX6 yX6_run yX6_run ∈ w_all := w_inT w_s3 206 rfl rfl
theorem mw_784 : Cond.code yX6_run cX6_run 2 (some .int) ∈ w_all := w_inT w_s3 207 rfl rfl
theorem mw_869 : Cond.methodLink RL 70 yX6_undo ∈ w_all := w_inT w_s4 52 rfl rfl
theorem mw_870 : Cond.instanceMethod yX6_undo ∈ w_all := w_inT w_s4 53 rfl rfl
theorem mw_871 : Cond.selects RX6 yX6_undo yX6_undo ∈ w_all := w_inT w_s4 54 rfl rfl
theorem mw_872 : Cond.code yX6_undo cX6_undo 1 (some .int) ∈ w_all := w_inT w_s4 55 rfl rfl
theorem mw_877 : Cond.methodLink RL 74 yX6_keep ∈ w_all := w_inT w_s4 60 rfl rfl
theorem mw_878 : Cond.instanceMethod yX6_keep ∈ w_all := w_inT w_s4 61 rfl rfl
theorem mw_879 : Cond.selects RX6 yX6_keep yX6_keep ∈ w_all := w_inT w_s4 62 rfl rfl
theorem mw_880 : Cond.code yX6_keep cX6_keep 3 (some .int) ∈ w_all := w_inT w_s4 63 rfl rfl
theorem mw_886 : Cond.methodLink RL 78 yX6_back ∈ w_all := w_inT w_s4 69 rfl rfl
theorem mw_887 : Cond.instanceMethod yX6_back ∈ w_all := w_inT w_s4 70 rfl rfl
theorem mw_888 : Cond.selects RX6 yX6_back yX6_back ∈ w_all := w_inT w_s4 71 rfl rfl
theorem mw_889 : Cond.code yX6_back cX6_back 3 (some .int) ∈ w_all := w_inT w_s4 72 rfl rfl
theorem mw_890 : Cond.methodLink RL 82 yX6_cell ∈ w_all := w_inT w_s4 73 rfl rfl
theorem mw_891 : Cond.instanceMethod yX6_cell ∈ w_all := w_inT w_s4 74 rfl rfl
theorem mw_892 : Cond.selects RX6 yX6_cell yX6_cell ∈ w_all := w_inT w_s4 75 rfl rfl
theorem mw_893 : Cond.code yX6_cell cX6_cell 3 (some .int) ∈ w_all := w_inT w_s4 76 rfl rfl
theorem mw_895 : Cond.methodLink RL 86 yX6_worn ∈ w_all := w_inT w_s4 78 rfl rfl
theorem mw_896 : Cond.instanceMethod yX6_worn ∈ w_all := w_inT w_s4 79 rfl rfl
theorem mw_897 : Cond.selects RX6 yX6_worn yX6_worn ∈ w_all := w_inT w_s4 80 rfl rfl
theorem mw_898 : Cond.code yX6_worn cX6_worn 2 (some .long) ∈ w_all := w_inT w_s4 81 rfl rfl
theorem mw_900 : Cond.methodLink RL 91 yX6_drum ∈ w_all := w_inT w_s4 83 rfl rfl
theorem mw_901 : Cond.instanceMethod yX6_drum ∈ w_all := w_inT w_s4 84 rfl rfl
theorem mw_902 : Cond.selects RX6 yX6_drum yX6_drum ∈ w_all := w_inT w_s4 85 rfl rfl

theorem mw_903 : Cond.code yX6_drum cX6_drum 3 (some .int) ∈ w_all := w_inT w_s4 86 rfl rfl
theorem mw_930 : Cond.methodLink RL 95 yX6_sign ∈ w_all := w_inT w_s4 113 rfl rfl
theorem mw_931 : Cond.instanceMethod yX6_sign ∈ w_all := w_inT w_s4 114 rfl rfl
theorem mw_932 : Cond.selects RX6 yX6_sign yX6_sign ∈ w_all := w_inT w_s4 115 rfl rfl
theorem mw_933 : Cond.code yX6_sign cX6_sign 3 (some .int) ∈ w_all := w_inT w_s4 116 rfl rfl
theorem mw_935 : Cond.methodLink RL 99 yX6_at ∈ w_all := w_inT w_s4 118 rfl rfl
theorem mw_936 : Cond.instanceMethod yX6_at ∈ w_all := w_inT w_s4 119 rfl rfl
theorem mw_937 : Cond.selects RX6 yX6_at yX6_at ∈ w_all := w_inT w_s4 120 rfl rfl
theorem mw_938 : Cond.code yX6_at cX6_at 5 (some .int) ∈ w_all := w_inT w_s4 121 rfl rfl
theorem mw_940 : Cond.methodLink RL 103 yX6_which ∈ w_all := w_inT w_s4 123 rfl rfl
theorem mw_941 : Cond.instanceMethod yX6_which ∈ w_all := w_inT w_s4 124 rfl rfl
theorem mw_942 : Cond.selects RX6 yX6_which yX6_which ∈ w_all := w_inT w_s4 125 rfl rfl
theorem mw_943 : Cond.code yX6_which cX6_which 5 (some .long) ∈ w_all := w_inT w_s4 126 rfl rfl
theorem mw_957 : Cond.methodLink RL 107 yX6_left ∈ w_all := w_inT w_s4 140 rfl rfl
theorem mw_958 : Cond.instanceMethod yX6_left ∈ w_all := w_inT w_s4 141 rfl rfl
theorem mw_959 : Cond.selects RX6 yX6_left yX6_left ∈ w_all := w_inT w_s4 142 rfl rfl
theorem mw_960 : Cond.code yX6_left cX6_left 2 (some .int) ∈ w_all := w_inT w_s4 143 rfl rfl
theorem mw_976 : Cond.methodLink RL 111 yX6_when ∈ w_all := w_inT w_s4 159 rfl rfl
theorem mw_977 : Cond.instanceMethod yX6_when ∈ w_all := w_inT w_s4 160 rfl rfl
theorem mw_978 : Cond.selects RX6 yX6_when yX6_when ∈ w_all := w_inT w_s4 161 rfl rfl
theorem mw_979 : Cond.code yX6_when cX6_when 2 (some .int) ∈ w_all := w_inT w_s4 162 rfl rfl
theorem mw_989 : Cond.methodLink RL 115 yX6_loudest ∈ w_all := w_inT w_s4 172 rfl rfl
theorem mw_990 : Cond.instanceMethod yX6_loudest ∈ w_all := w_inT w_s4 173 rfl rfl
theorem mw_991 : Cond.selects RX6 yX6_loudest yX6_loudest ∈ w_all := w_inT w_s4 174 rfl rfl
theorem mw_992 : Cond.code yX6_loudest cX6_loudest 2 (some .int) ∈ w_all := w_inT w_s4 175 rfl rfl
theorem mw_993 : Cond.methodLink RL 119 yX6_total ∈ w_all := w_inT w_s4 176 rfl rfl
theorem mw_994 : Cond.instanceMethod yX6_total ∈ w_all := w_inT w_s4 177 rfl rfl
theorem mw_995 : Cond.selects RX6 yX6_total yX6_total ∈ w_all := w_inT w_s4 178 rfl rfl
theorem mw_996 : Cond.code yX6_total cX6_total 2 (some .int) ∈ w_all := w_inT w_s4 179 rfl rfl
theorem mw_1001 : Cond.methodLink RL 160 yX6_rests ∈ w_all := w_inT w_s4 184 rfl rfl
theorem mw_1002 : Cond.instanceMethod yX6_rests ∈ w_all := w_inT w_s4 185 rfl rfl
theorem mw_1003 : Cond.selects RX6 yX6_rests yX6_rests ∈ w_all := w_inT w_s4 186 rfl rfl
theorem mw_1004 : Cond.code yX6_rests cX6_rests 3 (some .int) ∈ w_all := w_inT w_s4 187 rfl rfl
theorem mw_1005 : Cond.methodLink RL 123 yX6_cost ∈ w_all := w_inT w_s4 188 rfl rfl
theorem mw_1006 : Cond.instanceMethod yX6_cost ∈ w_all := w_inT w_s4 189 rfl rfl
theorem mw_1007 : Cond.selects RX6 yX6_cost yX6_cost ∈ w_all := w_inT w_s4 190 rfl rfl
theorem mw_1008 : Cond.code yX6_cost cX6_cost 3 (some .int) ∈ w_all := w_inT w_s4 191 rfl rfl
theorem mw_1020 : Cond.methodLink RL 127 yX6_best ∈ w_all := w_inT w_s4 203 rfl rfl
theorem mw_1021 : Cond.instanceMethod yX6_best ∈ w_all := w_inT w_s4 204 rfl rfl
theorem mw_1022 : Cond.selects RX6 yX6_best yX6_best ∈ w_all := w_inT w_s4 205 rfl rfl

theorem mw_1023 : Cond.code yX6_best cX6_best 12 (some .int) ∈ w_all := w_inT w_s4 206 rfl rfl
theorem mw_1028 : Cond.methodLink RL 131 yX6_place ∈ w_all := w_inT w_s4 211 rfl rfl
theorem mw_1029 : Cond.instanceMethod yX6_place ∈ w_all := w_inT w_s4 212 rfl rfl
theorem mw_1030 : Cond.selects RX6 yX6_place yX6_place ∈ w_all := w_inT w_s4 213 rfl rfl
theorem mw_1031 : Cond.code yX6_place cX6_place 10 (some .int) ∈ w_all := w_inT w_s4 214 rfl rfl
theorem mw_1032 : Cond.methodLink RL 135 yX6_log ∈ w_all := w_inT w_s4 215 rfl rfl
theorem mw_1033 : Cond.instanceMethod yX6_log ∈ w_all := w_inT w_s4 216 rfl rfl
theorem mw_1034 : Cond.selects RX6 yX6_log yX6_log ∈ w_all := w_inT w_s4 217 rfl rfl
theorem mw_1035 : Cond.code yX6_log cX6_log 3 (some .int) ∈ w_all := w_inT w_s4 218 rfl rfl
theorem mw_1056 : Cond.methodLink RL 139 yX6_often ∈ w_all := w_inT w_s4 239 rfl rfl
theorem mw_1057 : Cond.instanceMethod yX6_often ∈ w_all := w_inT w_s5 0 rfl rfl
theorem mw_1058 : Cond.selects RX6 yX6_often yX6_often ∈ w_all := w_inT w_s5 1 rfl rfl
theorem mw_1059 : Cond.code yX6_often cX6_often 4 (some .int) ∈ w_all := w_inT w_s5 2 rfl rfl
theorem mw_1061 : Cond.methodLink RL 144 yX6_usual ∈ w_all := w_inT w_s5 4 rfl rfl
theorem mw_1062 : Cond.instanceMethod yX6_usual ∈ w_all := w_inT w_s5 5 rfl rfl
theorem mw_1063 : Cond.selects RX6 yX6_usual yX6_usual ∈ w_all := w_inT w_s5 6 rfl rfl
theorem mw_1064 : Cond.code yX6_usual cX6_usual 7 (some .int) ∈ w_all := w_inT w_s5 7 rfl rfl
theorem mw_1065 : Cond.methodLink RL 148 yX6_better ∈ w_all := w_inT w_s5 8 rfl rfl
theorem mw_1066 : Cond.instanceMethod yX6_better ∈ w_all := w_inT w_s5 9 rfl rfl
theorem mw_1067 : Cond.selects RX6 yX6_better yX6_better ∈ w_all := w_inT w_s5 10 rfl rfl
theorem mw_1068 : Cond.code yX6_better cX6_better 10 (some .int) ∈ w_all := w_inT w_s5 11 rfl rfl
theorem mw_1073 : Cond.methodLink RL 152 yX6_farthest ∈ w_all := w_inT w_s5 16 rfl rfl
theorem mw_1074 : Cond.instanceMethod yX6_farthest ∈ w_all := w_inT w_s5 17 rfl rfl
theorem mw_1075 : Cond.selects RX6 yX6_farthest yX6_farthest ∈ w_all := w_inT w_s5 18 rfl rfl
theorem mw_1076 : Cond.code yX6_farthest cX6_farthest 8 (some .int) ∈ w_all := w_inT w_s5 19 rfl rfl
theorem mw_1080 : Cond.methodLink RL 156 yX6_lacks ∈ w_all := w_inT w_s5 23 rfl rfl
theorem mw_1081 : Cond.instanceMethod yX6_lacks ∈ w_all := w_inT w_s5 24 rfl rfl
theorem mw_1082 : Cond.selects RX6 yX6_lacks yX6_lacks ∈ w_all := w_inT w_s5 25 rfl rfl
theorem mw_1083 : Cond.code yX6_lacks cX6_lacks 3 (some .int) ∈ w_all := w_inT w_s5 26 rfl rfl
theorem mw_1100 : Cond.methodLink RL 164 yX6_unlike ∈ w_all := w_inT w_s5 43 rfl rfl
theorem mw_1101 : Cond.instanceMethod yX6_unlike ∈ w_all := w_inT w_s5 44 rfl rfl
theorem mw_1102 : Cond.selects RX6 yX6_unlike yX6_unlike ∈ w_all := w_inT w_s5 45 rfl rfl
theorem mw_1103 : Cond.code yX6_unlike cX6_unlike 7 (some .int) ∈ w_all := w_inT w_s5 46 rfl rfl
theorem mw_1105 : Cond.methodLink RL 168 yX6_letter ∈ w_all := w_inT w_s5 48 rfl rfl
theorem mw_1106 : Cond.instanceMethod yX6_letter ∈ w_all := w_inT w_s5 49 rfl rfl
theorem mw_1107 : Cond.selects RX6 yX6_letter yX6_letter ∈ w_all := w_inT w_s5 50 rfl rfl
theorem mw_1108 : Cond.code yX6_letter cX6_letter 6 (some .int) ∈ w_all := w_inT w_s5 51 rfl rfl
theorem mw_1109 : Cond.methodLink RL 172 yX6_digest ∈ w_all := w_inT w_s5 52 rfl rfl
theorem mw_1110 : Cond.instanceMethod yX6_digest ∈ w_all := w_inT w_s5 53 rfl rfl
theorem mw_1111 : Cond.selects RX6 yX6_digest yX6_digest ∈ w_all := w_inT w_s5 54 rfl rfl

theorem mw_1112 : Cond.code yX6_digest cX6_digest 4 (some .long) ∈ w_all := w_inT w_s5 55 rfl rfl
theorem mw_1115 : Cond.methodLink RL 177 yX6_count ∈ w_all := w_inT w_s5 58 rfl rfl
theorem mw_1116 : Cond.instanceMethod yX6_count ∈ w_all := w_inT w_s5 59 rfl rfl
theorem mw_1117 : Cond.selects RX6 yX6_count yX6_count ∈ w_all := w_inT w_s5 60 rfl rfl
theorem mw_1118 : Cond.code yX6_count cX6_count 2 (some .int) ∈ w_all := w_inT w_s5 61 rfl rfl
theorem mw_1123 : Cond.classLink RL 10 RX7 ∈ w_all := w_inT w_s5 66 rfl rfl
theorem mw_1124 : Cond.instantiable RX7 23 ∈ w_all := w_inT w_s5 67 rfl rfl
theorem mw_1125 : Cond.methodLink RL 12 yX7_init ∈ w_all := w_inT w_s5 68 rfl rfl
theorem mw_1126 : Cond.instanceMethod yX7_init ∈ w_all := w_inT w_s5 69 rfl rfl
theorem mw_1127 : Cond.code yX7_init cX7_init 1 none ∈ w_all := w_inT w_s5 70 rfl rfl
theorem mw_1201 : Cond.methodLink RL 31 yX7_row ∈ w_all := w_inT w_s5 144 rfl rfl
theorem mw_1202 : Cond.instanceMethod yX7_row ∈ w_all := w_inT w_s5 145 rfl rfl
theorem mw_1203 : Cond.selects RX7 yX7_row yX7_row ∈ w_all := w_inT w_s5 146 rfl rfl
theorem mw_1204 : Cond.code yX7_row cX7_row 3 (some .int) ∈ w_all := w_inT w_s5 147 rfl rfl
theorem mw_1279 : Cond.methodLink RL 35 yX7_scroll ∈ w_all := w_inT w_s5 222 rfl rfl
theorem mw_1280 : Cond.instanceMethod yX7_scroll ∈ w_all := w_inT w_s5 223 rfl rfl
theorem mw_1281 : Cond.selects RX7 yX7_scroll yX7_scroll ∈ w_all := w_inT w_s5 224 rfl rfl
theorem mw_1282 : Cond.code yX7_scroll cX7_scroll 2 (some .int) ∈ w_all := w_inT w_s5 225 rfl rfl
theorem mw_1299 : Cond.methodLink RL 39 yX7_tick ∈ w_all := w_inT w_s6 2 rfl rfl
theorem mw_1300 : Cond.instanceMethod yX7_tick ∈ w_all := w_inT w_s6 3 rfl rfl
theorem mw_1301 : Cond.selects RX7 yX7_tick yX7_tick ∈ w_all := w_inT w_s6 4 rfl rfl
theorem mw_1302 : Cond.code yX7_tick cX7_tick 4 (some .int) ∈ w_all := w_inT w_s6 5 rfl rfl
theorem mw_1328 : Cond.methodLink RL 43 yX7_settle ∈ w_all := w_inT w_s6 31 rfl rfl
theorem mw_1329 : Cond.instanceMethod yX7_settle ∈ w_all := w_inT w_s6 32 rfl rfl
theorem mw_1330 : Cond.selects RX7 yX7_settle yX7_settle ∈ w_all := w_inT w_s6 33 rfl rfl
theorem mw_1331 : Cond.code yX7_settle cX7_settle 1 (some .int) ∈ w_all := w_inT w_s6 34 rfl rfl
theorem mw_1336 : Cond.methodLink RL 48 yX7_lose ∈ w_all := w_inT w_s6 39 rfl rfl
theorem mw_1337 : Cond.instanceMethod yX7_lose ∈ w_all := w_inT w_s6 40 rfl rfl
theorem mw_1338 : Cond.selects RX7 yX7_lose yX7_lose ∈ w_all := w_inT w_s6 41 rfl rfl
theorem mw_1339 : Cond.code yX7_lose cX7_lose 4 (some .int) ∈ w_all := w_inT w_s6 42 rfl rfl
theorem mw_1345 : Cond.methodLink RL 52 yX7_wear ∈ w_all := w_inT w_s6 48 rfl rfl
theorem mw_1346 : Cond.instanceMethod yX7_wear ∈ w_all := w_inT w_s6 49 rfl rfl
theorem mw_1347 : Cond.selects RX7 yX7_wear yX7_wear ∈ w_all := w_inT w_s6 50 rfl rfl
theorem mw_1348 : Cond.code yX7_wear cX7_wear 3 (some .int) ∈ w_all := w_inT w_s6 51 rfl rfl
theorem mw_1360 : Cond.methodLink RL 56 yX7_mend ∈ w_all := w_inT w_s6 63 rfl rfl
theorem mw_1361 : Cond.instanceMethod yX7_mend ∈ w_all := w_inT w_s6 64 rfl rfl
theorem mw_1362 : Cond.selects RX7 yX7_mend yX7_mend ∈ w_all := w_inT w_s6 65 rfl rfl
theorem mw_1363 : Cond.code yX7_mend cX7_mend 3 (some .int) ∈ w_all := w_inT w_s6 66 rfl rfl
theorem mw_1365 : Cond.methodLink RL 60 yX7_limit ∈ w_all := w_inT w_s6 68 rfl rfl
theorem mw_1366 : Cond.instanceMethod yX7_limit ∈ w_all := w_inT w_s6 69 rfl rfl

theorem mw_1367 : Cond.selects RX7 yX7_limit yX7_limit ∈ w_all := w_inT w_s6 70 rfl rfl
theorem mw_1368 : Cond.code yX7_limit cX7_limit 3 (some .int) ∈ w_all := w_inT w_s6 71 rfl rfl
theorem mw_1369 : Cond.methodLink RL 65 yX7_exchange ∈ w_all := w_inT w_s6 72 rfl rfl
theorem mw_1370 : Cond.instanceMethod yX7_exchange ∈ w_all := w_inT w_s6 73 rfl rfl
theorem mw_1371 : Cond.selects RX7 yX7_exchange yX7_exchange ∈ w_all := w_inT w_s6 74 rfl rfl
theorem mw_1372 : Cond.code yX7_exchange cX7_exchange 8 (some .int) ∈ w_all := w_inT w_s6 75 rfl rfl
theorem mw_1377 : Cond.methodLink RL 73 yX7_undo ∈ w_all := w_inT w_s6 80 rfl rfl
theorem mw_1378 : Cond.instanceMethod yX7_undo ∈ w_all := w_inT w_s6 81 rfl rfl
theorem mw_1379 : Cond.selects RX7 yX7_undo yX7_undo ∈ w_all := w_inT w_s6 82 rfl rfl
theorem mw_1380 : Cond.code yX7_undo cX7_undo 2 (some .int) ∈ w_all := w_inT w_s6 83 rfl rfl
theorem mw_1381 : Cond.methodLink RL 77 yX7_keep ∈ w_all := w_inT w_s6 84 rfl rfl
theorem mw_1382 : Cond.instanceMethod yX7_keep ∈ w_all := w_inT w_s6 85 rfl rfl
theorem mw_1383 : Cond.selects RX7 yX7_keep yX7_keep ∈ w_all := w_inT w_s6 86 rfl rfl
theorem mw_1384 : Cond.code yX7_keep cX7_keep 3 (some .int) ∈ w_all := w_inT w_s6 87 rfl rfl
theorem mw_1385 : Cond.methodLink RL 81 yX7_back ∈ w_all := w_inT w_s6 88 rfl rfl
theorem mw_1386 : Cond.instanceMethod yX7_back ∈ w_all := w_inT w_s6 89 rfl rfl
theorem mw_1387 : Cond.selects RX7 yX7_back yX7_back ∈ w_all := w_inT w_s6 90 rfl rfl
theorem mw_1388 : Cond.code yX7_back cX7_back 3 (some .int) ∈ w_all := w_inT w_s6 91 rfl rfl
theorem mw_1389 : Cond.methodLink RL 85 yX7_cell ∈ w_all := w_inT w_s6 92 rfl rfl
theorem mw_1390 : Cond.instanceMethod yX7_cell ∈ w_all := w_inT w_s6 93 rfl rfl
theorem mw_1391 : Cond.selects RX7 yX7_cell yX7_cell ∈ w_all := w_inT w_s6 94 rfl rfl
theorem mw_1392 : Cond.code yX7_cell cX7_cell 3 (some .int) ∈ w_all := w_inT w_s6 95 rfl rfl
theorem mw_1393 : Cond.methodLink RL 90 yX7_worn ∈ w_all := w_inT w_s6 96 rfl rfl
theorem mw_1394 : Cond.instanceMethod yX7_worn ∈ w_all := w_inT w_s6 97 rfl rfl
theorem mw_1395 : Cond.selects RX7 yX7_worn yX7_worn ∈ w_all := w_inT w_s6 98 rfl rfl
theorem mw_1396 : Cond.code yX7_worn cX7_worn 2 (some .long) ∈ w_all := w_inT w_s6 99 rfl rfl
theorem mw_1397 : Cond.methodLink RL 94 yX7_drum ∈ w_all := w_inT w_s6 100 rfl rfl
theorem mw_1398 : Cond.instanceMethod yX7_drum ∈ w_all := w_inT w_s6 101 rfl rfl
theorem mw_1399 : Cond.selects RX7 yX7_drum yX7_drum ∈ w_all := w_inT w_s6 102 rfl rfl
theorem mw_1400 : Cond.code yX7_drum cX7_drum 3 (some .int) ∈ w_all := w_inT w_s6 103 rfl rfl
theorem mw_1413 : Cond.methodLink RL 98 yX7_sign ∈ w_all := w_inT w_s6 116 rfl rfl
theorem mw_1414 : Cond.instanceMethod yX7_sign ∈ w_all := w_inT w_s6 117 rfl rfl
theorem mw_1415 : Cond.selects RX7 yX7_sign yX7_sign ∈ w_all := w_inT w_s6 118 rfl rfl
theorem mw_1416 : Cond.code yX7_sign cX7_sign 3 (some .int) ∈ w_all := w_inT w_s6 119 rfl rfl
theorem mw_1417 : Cond.methodLink RL 102 yX7_at ∈ w_all := w_inT w_s6 120 rfl rfl
theorem mw_1418 : Cond.instanceMethod yX7_at ∈ w_all := w_inT w_s6 121 rfl rfl
theorem mw_1419 : Cond.selects RX7 yX7_at yX7_at ∈ w_all := w_inT w_s6 122 rfl rfl
theorem mw_1420 : Cond.code yX7_at cX7_at 4 (some .int) ∈ w_all := w_inT w_s6 123 rfl rfl
theorem mw_1426 : Cond.methodLink RL 106 yX7_which ∈ w_all := w_inT w_s6 129 rfl rfl
theorem mw_1427 : Cond.instanceMethod yX7_which ∈ w_all := w_inT w_s6 130 rfl rfl

theorem mw_1428 : Cond.selects RX7 yX7_which yX7_which ∈ w_all := w_inT w_s6 131 rfl rfl
theorem mw_1429 : Cond.code yX7_which cX7_which 5 (some .long) ∈ w_all := w_inT w_s6 132 rfl rfl
theorem mw_1439 : Cond.methodLink RL 110 yX7_left ∈ w_all := w_inT w_s6 142 rfl rfl
theorem mw_1440 : Cond.instanceMethod yX7_left ∈ w_all := w_inT w_s6 143 rfl rfl
theorem mw_1441 : Cond.selects RX7 yX7_left yX7_left ∈ w_all := w_inT w_s6 144 rfl rfl
theorem mw_1442 : Cond.code yX7_left cX7_left 6 (some .int) ∈ w_all := w_inT w_s6 145 rfl rfl
theorem mw_1444 : Cond.methodLink RL 114 yX7_when ∈ w_all := w_inT w_s6 147 rfl rfl
theorem mw_1445 : Cond.instanceMethod yX7_when ∈ w_all := w_inT w_s6 148 rfl rfl
theorem mw_1446 : Cond.selects RX7 yX7_when yX7_when ∈ w_all := w_inT w_s6 149 rfl rfl
theorem mw_1447 : Cond.code yX7_when cX7_when 8 (some .int) ∈ w_all := w_inT w_s6 150 rfl rfl
theorem mw_1461 : Cond.methodLink RL 122 yX7_total ∈ w_all := w_inT w_s6 164 rfl rfl
theorem mw_1462 : Cond.instanceMethod yX7_total ∈ w_all := w_inT w_s6 165 rfl rfl
theorem mw_1463 : Cond.selects RX7 yX7_total yX7_total ∈ w_all := w_inT w_s6 166 rfl rfl
theorem mw_1464 : Cond.code yX7_total cX7_total 2 (some .int) ∈ w_all := w_inT w_s6 167 rfl rfl
theorem mw_1465 : Cond.methodLink RL 163 yX7_rests ∈ w_all := w_inT w_s6 168 rfl rfl
theorem mw_1466 : Cond.instanceMethod yX7_rests ∈ w_all := w_inT w_s6 169 rfl rfl
theorem mw_1467 : Cond.selects RX7 yX7_rests yX7_rests ∈ w_all := w_inT w_s6 170 rfl rfl
theorem mw_1468 : Cond.code yX7_rests cX7_rests 4 (some .int) ∈ w_all := w_inT w_s6 171 rfl rfl
theorem mw_1469 : Cond.methodLink RL 167 yX7_unlike ∈ w_all := w_inT w_s6 172 rfl rfl
theorem mw_1470 : Cond.instanceMethod yX7_unlike ∈ w_all := w_inT w_s6 173 rfl rfl
theorem mw_1471 : Cond.selects RX7 yX7_unlike yX7_unlike ∈ w_all := w_inT w_s6 174 rfl rfl
theorem mw_1472 : Cond.code yX7_unlike cX7_unlike 5 (some .int) ∈ w_all := w_inT w_s6 175 rfl rfl
theorem mw_1473 : Cond.methodLink RL 176 yX7_digest ∈ w_all := w_inT w_s6 176 rfl rfl
theorem mw_1474 : Cond.instanceMethod yX7_digest ∈ w_all := w_inT w_s6 177 rfl rfl
theorem mw_1475 : Cond.selects RX7 yX7_digest yX7_digest ∈ w_all := w_inT w_s6 178 rfl rfl
theorem mw_1476 : Cond.code yX7_digest cX7_digest 5 (some .long) ∈ w_all := w_inT w_s6 179 rfl rfl
theorem mw_1479 : Cond.methodLink RL 171 yX7_letter ∈ w_all := w_inT w_s6 182 rfl rfl
theorem mw_1480 : Cond.instanceMethod yX7_letter ∈ w_all := w_inT w_s6 183 rfl rfl
theorem mw_1481 : Cond.selects RX7 yX7_letter yX7_letter ∈ w_all := w_inT w_s6 184 rfl rfl
theorem mw_1482 : Cond.code yX7_letter cX7_letter 5 (some .int) ∈ w_all := w_inT w_s6 185 rfl rfl
theorem mw_1483 : Cond.methodLink RL 180 yX7_count ∈ w_all := w_inT w_s6 186 rfl rfl
theorem mw_1484 : Cond.instanceMethod yX7_count ∈ w_all := w_inT w_s6 187 rfl rfl
theorem mw_1485 : Cond.selects RX7 yX7_count yX7_count ∈ w_all := w_inT w_s6 188 rfl rfl
theorem mw_1486 : Cond.code yX7_count cX7_count 2 (some .int) ∈ w_all := w_inT w_s6 189 rfl rfl
theorem mw_1487 : Cond.methodLink RL 126 yX7_cost ∈ w_all := w_inT w_s6 190 rfl rfl
theorem mw_1488 : Cond.instanceMethod yX7_cost ∈ w_all := w_inT w_s6 191 rfl rfl
theorem mw_1489 : Cond.selects RX7 yX7_cost yX7_cost ∈ w_all := w_inT w_s6 192 rfl rfl
theorem mw_1490 : Cond.code yX7_cost cX7_cost 2 (some .int) ∈ w_all := w_inT w_s6 193 rfl rfl
theorem mw_1495 : Cond.methodLink RL 130 yX7_best ∈ w_all := w_inT w_s6 198 rfl rfl
theorem mw_1496 : Cond.instanceMethod yX7_best ∈ w_all := w_inT w_s6 199 rfl rfl

theorem mw_1497 : Cond.selects RX7 yX7_best yX7_best ∈ w_all := w_inT w_s6 200 rfl rfl
theorem mw_1498 : Cond.code yX7_best cX7_best 9 (some .int) ∈ w_all := w_inT w_s6 201 rfl rfl
theorem mw_1503 : Cond.methodLink RL 134 yX7_place ∈ w_all := w_inT w_s6 206 rfl rfl
theorem mw_1504 : Cond.instanceMethod yX7_place ∈ w_all := w_inT w_s6 207 rfl rfl
theorem mw_1505 : Cond.selects RX7 yX7_place yX7_place ∈ w_all := w_inT w_s6 208 rfl rfl
theorem mw_1506 : Cond.code yX7_place cX7_place 7 (some .int) ∈ w_all := w_inT w_s6 209 rfl rfl
theorem mw_1507 : Cond.methodLink RL 138 yX7_log ∈ w_all := w_inT w_s6 210 rfl rfl
theorem mw_1508 : Cond.instanceMethod yX7_log ∈ w_all := w_inT w_s6 211 rfl rfl
theorem mw_1509 : Cond.selects RX7 yX7_log yX7_log ∈ w_all := w_inT w_s6 212 rfl rfl
theorem mw_1510 : Cond.code yX7_log cX7_log 3 (some .int) ∈ w_all := w_inT w_s6 213 rfl rfl
theorem mw_1526 : Cond.methodLink RL 143 yX7_often ∈ w_all := w_inT w_s6 229 rfl rfl
theorem mw_1530 : Cond.methodLink RL 151 yX7_better ∈ w_all := w_inT w_s6 233 rfl rfl
theorem mw_1531 : Cond.instanceMethod yX7_better ∈ w_all := w_inT w_s6 234 rfl rfl
theorem mw_1532 : Cond.selects RX7 yX7_better yX7_better ∈ w_all := w_inT w_s6 235 rfl rfl
theorem mw_1533 : Cond.code yX7_better cX7_better 9 (some .int) ∈ w_all := w_inT w_s6 236 rfl rfl
theorem mw_1534 : Cond.methodLink RL 155 yX7_farthest ∈ w_all := w_inT w_s6 237 rfl rfl
theorem mw_1535 : Cond.instanceMethod yX7_farthest ∈ w_all := w_inT w_s6 238 rfl rfl
theorem mw_1536 : Cond.selects RX7 yX7_farthest yX7_farthest ∈ w_all := w_inT w_s6 239 rfl rfl
theorem mw_1537 : Cond.code yX7_farthest cX7_farthest 7 (some .int) ∈ w_all := w_inT w_s7 0 rfl rfl
theorem mw_1538 : Cond.methodLink RL 159 yX7_lacks ∈ w_all := w_inT w_s7 1 rfl rfl
theorem mw_1539 : Cond.instanceMethod yX7_lacks ∈ w_all := w_inT w_s7 2 rfl rfl
theorem mw_1540 : Cond.selects RX7 yX7_lacks yX7_lacks ∈ w_all := w_inT w_s7 3 rfl rfl
theorem mw_1541 : Cond.code yX7_lacks cX7_lacks 6 (some .int) ∈ w_all := w_inT w_s7 4 rfl rfl
theorem mw_1546 : Cond.methodLink RL 17 yX7_feed ∈ w_all := w_inT w_s7 9 rfl rfl
theorem mw_1547 : Cond.instanceMethod yX7_feed ∈ w_all := w_inT w_s7 10 rfl rfl
theorem mw_1548 : Cond.selects RX7 yX7_feed yX7_feed ∈ w_all := w_inT w_s7 11 rfl rfl
theorem mw_1549 : Cond.code yX7_feed cX7_feed 6 (some .int) ∈ w_all := w_inT w_s7 12 rfl rfl
theorem mw_1554 : Cond.methodLink RL 22 yX7_end ∈ w_all := w_inT w_s7 17 rfl rfl
theorem mw_1555 : Cond.instanceMethod yX7_end ∈ w_all := w_inT w_s7 18 rfl rfl
theorem mw_1556 : Cond.selects RX7 yX7_end yX7_end ∈ w_all := w_inT w_s7 19 rfl rfl
theorem mw_1557 : Cond.code yX7_end cX7_end 2 (some .int) ∈ w_all := w_inT w_s7 20 rfl rfl
theorem mw_1558 : Cond.methodLink RL 27 yX7_tell ∈ w_all := w_inT w_s7 21 rfl rfl
theorem mw_1559 : Cond.instanceMethod yX7_tell ∈ w_all := w_inT w_s7 22 rfl rfl
theorem mw_1560 : Cond.selects RX7 yX7_tell yX7_tell ∈ w_all := w_inT w_s7 23 rfl rfl
theorem mw_1561 : Cond.code yX7_tell cX7_tell 2 (some .int) ∈ w_all := w_inT w_s7 24 rfl rfl
theorem mw_1643 : Cond.methodLink RL 69 yX7_run ∈ w_all := w_inT w_s7 106 rfl rfl
theorem mw_1644 : Cond.instanceMethod yX7_run ∈ w_all := w_inT w_s7 107 rfl rfl
theorem mw_1645 : Cond.selects RX7 yX7_run yX7_run ∈ w_all := w_inT w_s7 108 rfl rfl
theorem mw_1646 : Cond.code yX7_run cX7_run 2 (some .int) ∈ w_all := w_inT w_s7 109 rfl rfl
theorem mw_1696 : Cond.methodLink RL 118 yX7_loudest ∈ w_all := w_inT w_s7 159 rfl rfl

theorem mw_1697 : Cond.instanceMethod yX7_loudest ∈ w_all := w_inT w_s7 160 rfl rfl
theorem mw_1698 : Cond.selects RX7 yX7_loudest yX7_loudest ∈ w_all := w_inT w_s7 161 rfl rfl
theorem mw_1699 : Cond.code yX7_loudest cX7_loudest 5 (some .int) ∈ w_all := w_inT w_s7 162 rfl rfl
theorem mw_1700 : Cond.methodLink RL 147 yX7_usual ∈ w_all := w_inT w_s7 163 rfl rfl
theorem mw_1701 : Cond.instanceMethod yX7_usual ∈ w_all := w_inT w_s7 164 rfl rfl
theorem mw_1702 : Cond.selects RX7 yX7_usual yX7_usual ∈ w_all := w_inT w_s7 165 rfl rfl
theorem mw_1703 : Cond.code yX7_usual cX7_usual 6 (some .int) ∈ w_all := w_inT w_s7 166 rfl rfl
theorem wd_X6_at : wd_V yX6_at cX6_at 5 (some .int) 3 := ⟨mw_936, mw_937, mw_98, mw_938, wn1_RX6, wn2_RX6, wpd_18⟩
theorem wd_X6_back : wd_V yX6_back cX6_back 3 (some .int) 1 := ⟨mw_887, mw_888, mw_98, mw_889, wn1_RX6, wn2_RX6, wpd_10⟩
theorem wd_X6_best : wd_V yX6_best cX6_best 12 (some .int) 2 := ⟨mw_1021, mw_1022, mw_98, mw_1023, wn1_RX6, wn2_RX6, wpd_17⟩
theorem wd_X6_better : wd_V yX6_better cX6_better 10 (some .int) 2 := ⟨mw_1066, mw_1067, mw_98, mw_1068, wn1_RX6, wn2_RX6, wpd_17⟩
theorem wd_X6_cell : wd_V yX6_cell cX6_cell 3 (some .int) 2 := ⟨mw_891, mw_892, mw_98, mw_893, wn1_RX6, wn2_RX6, wpd_17⟩
theorem wd_X6_cost : wd_V yX6_cost cX6_cost 3 (some .int) 1 := ⟨mw_1006, mw_1007, mw_98, mw_1008, wn1_RX6, wn2_RX6, wpd_10⟩
theorem wd_X6_count : wd_V yX6_count cX6_count 2 (some .int) 1 := ⟨mw_1116, mw_1117, mw_98, mw_1118, wn1_RX6, wn2_RX6, wpd_10⟩
theorem wd_X6_digest : wd_V yX6_digest cX6_digest 4 (some .long) 0 := ⟨mw_1110, mw_1111, mw_98, mw_1112, wn1_RX6, wn2_RX6, wpd_26⟩
theorem wd_X6_drum : wd_V yX6_drum cX6_drum 3 (some .int) 2 := ⟨mw_901, mw_902, mw_98, mw_903, wn1_RX6, wn2_RX6, wpd_17⟩
theorem wd_X6_end : wd_V yX6_end cX6_end 2 (some .int) 1 := ⟨mw_386, mw_387, mw_98, mw_388, wn1_RX6, wn2_RX6, wpd_10⟩
theorem wd_X6_exchange : wd_V yX6_exchange cX6_exchange 4 (some .int) 3 := ⟨mw_765, mw_766, mw_98, mw_767, wn1_RX6, wn2_RX6, wpd_18⟩
theorem wd_X6_farthest : wd_V yX6_farthest cX6_farthest 8 (some .int) 2 := ⟨mw_1074, mw_1075, mw_98, mw_1076, wn1_RX6, wn2_RX6, wpd_17⟩
theorem wd_X6_feed : wd_V yX6_feed cX6_feed 6 (some .int) 5 := ⟨mw_378, mw_379, mw_98, mw_380, wn1_RX6, wn2_RX6, wpd_45⟩
theorem wd_X6_init : wd_I yX6_init cX6_init 1 0 := ⟨mw_117, mw_98, mw_118, rfl, wn1_RX6, wn2_RX6, wpd_11⟩
theorem wd_X6_keep : wd_V yX6_keep cX6_keep 3 (some .int) 1 := ⟨mw_878, mw_879, mw_98, mw_880, wn1_RX6, wn2_RX6, wpd_10⟩
theorem wd_X6_lacks : wd_V yX6_lacks cX6_lacks 3 (some .int) 2 := ⟨mw_1081, mw_1082, mw_98, mw_1083, wn1_RX6, wn2_RX6, wpd_17⟩
theorem wd_X6_left : wd_V yX6_left cX6_left 2 (some .int) 1 := ⟨mw_958, mw_959, mw_98, mw_960, wn1_RX6, wn2_RX6, wpd_10⟩
theorem wd_X6_letter : wd_V yX6_letter cX6_letter 6 (some .int) 2 := ⟨mw_1106, mw_1107, mw_98, mw_1108, wn1_RX6, wn2_RX6, wpd_17⟩
theorem wd_X6_limit : wd_V yX6_limit cX6_limit 3 (some .int) 1 := ⟨mw_761, mw_762, mw_98, mw_763, wn1_RX6, wn2_RX6, wpd_10⟩
theorem wd_X6_log : wd_V yX6_log cX6_log 3 (some .int) 2 := ⟨mw_1033, mw_1034, mw_98, mw_1035, wn1_RX6, wn2_RX6, wpd_17⟩
theorem wd_X6_lose : wd_V yX6_lose cX6_lose 4 (some .int) 2 := ⟨mw_727, mw_728, mw_98, mw_729, wn1_RX6, wn2_RX6, wpd_17⟩
theorem wd_X6_loudest : wd_V yX6_loudest cX6_loudest 2 (some .int) 1 := ⟨mw_990, mw_991, mw_98, mw_992, wn1_RX6, wn2_RX6, wpd_10⟩
theorem wd_X6_mend : wd_V yX6_mend cX6_mend 3 (some .int) 2 := ⟨mw_753, mw_754, mw_98, mw_755, wn1_RX6, wn2_RX6, wpd_17⟩
theorem wd_X6_often : wd_V yX6_often cX6_often 4 (some .int) 3 := ⟨mw_1057, mw_1058, mw_98, mw_1059, wn1_RX6, wn2_RX6, wpd_15⟩
theorem wd_X6_place : wd_V yX6_place cX6_place 10 (some .int) 2 := ⟨mw_1029, mw_1030, mw_98, mw_1031, wn1_RX6, wn2_RX6, wpd_17⟩
theorem wd_X6_rests : wd_V yX6_rests cX6_rests 3 (some .int) 1 := ⟨mw_1002, mw_1003, mw_98, mw_1004, wn1_RX6, wn2_RX6, wpd_10⟩
theorem wd_X6_row : wd_V yX6_row cX6_row 3 (some .int) 1 := ⟨mw_614, mw_615, mw_98, mw_616, wn1_RX6, wn2_RX6, wpd_10⟩
theorem wd_X6_run : wd_V yX6_run cX6_run 2 (some .int) 0 := ⟨mw_782, mw_783, mw_98, mw_784, wn1_RX6, wn2_RX6, wpd_4⟩
theorem wd_X6_scroll : wd_V yX6_scroll cX6_scroll 2 (some .int) 0 := ⟨mw_653, mw_654, mw_98, mw_655, wn1_RX6, wn2_RX6, wpd_4⟩
theorem wd_X6_settle : wd_V yX6_settle cX6_settle 1 (some .int) 0 := ⟨mw_722, mw_723, mw_98, mw_724, wn1_RX6, wn2_RX6, wpd_4⟩
theorem wd_X6_sign : wd_V yX6_sign cX6_sign 3 (some .int) 2 := ⟨mw_931, mw_932, mw_98, mw_933, wn1_RX6, wn2_RX6, wpd_17⟩
theorem wd_X6_tell : wd_V yX6_tell cX6_tell 1 (some .int) 0 := ⟨mw_390, mw_391, mw_98, mw_392, wn1_RX6, wn2_RX6, wpd_4⟩
theorem wd_X6_tick : wd_V yX6_tick cX6_tick 2 (some .int) 1 := ⟨mw_674, mw_675, mw_98, mw_676, wn1_RX6, wn2_RX6, wpd_10⟩

theorem wd_X6_total : wd_V yX6_total cX6_total 2 (some .int) 1 := ⟨mw_994, mw_995, mw_98, mw_996, wn1_RX6, wn2_RX6, wpd_10⟩
theorem wd_X6_undo : wd_V yX6_undo cX6_undo 1 (some .int) 0 := ⟨mw_870, mw_871, mw_98, mw_872, wn1_RX6, wn2_RX6, wpd_4⟩
theorem wd_X6_unlike : wd_V yX6_unlike cX6_unlike 7 (some .int) 2 := ⟨mw_1101, mw_1102, mw_98, mw_1103, wn1_RX6, wn2_RX6, wpd_17⟩
theorem wd_X6_usual : wd_V yX6_usual cX6_usual 7 (some .int) 2 := ⟨mw_1062, mw_1063, mw_98, mw_1064, wn1_RX6, wn2_RX6, wpd_17⟩
theorem wd_X6_wear : wd_V yX6_wear cX6_wear 3 (some .int) 2 := ⟨mw_733, mw_734, mw_98, mw_735, wn1_RX6, wn2_RX6, wpd_17⟩
theorem wd_X6_when : wd_V yX6_when cX6_when 2 (some .int) 1 := ⟨mw_977, mw_978, mw_98, mw_979, wn1_RX6, wn2_RX6, wpd_10⟩
theorem wd_X6_which : wd_V yX6_which cX6_which 5 (some .long) 1 := ⟨mw_941, mw_942, mw_98, mw_943, wn1_RX6, wn2_RX6, wpd_42⟩
theorem wd_X6_worn : wd_V yX6_worn cX6_worn 2 (some .long) 1 := ⟨mw_896, mw_897, mw_98, mw_898, wn1_RX6, wn2_RX6, wpd_42⟩
theorem wd_X7_at : wd_V yX7_at cX7_at 4 (some .int) 3 := ⟨mw_1418, mw_1419, mw_104, mw_1420, wn1_RX7, wn2_RX7, wpd_18⟩
theorem wd_X7_back : wd_V yX7_back cX7_back 3 (some .int) 1 := ⟨mw_1386, mw_1387, mw_104, mw_1388, wn1_RX7, wn2_RX7, wpd_10⟩
theorem wd_X7_best : wd_V yX7_best cX7_best 9 (some .int) 2 := ⟨mw_1496, mw_1497, mw_104, mw_1498, wn1_RX7, wn2_RX7, wpd_17⟩
theorem wd_X7_better : wd_V yX7_better cX7_better 9 (some .int) 2 := ⟨mw_1531, mw_1532, mw_104, mw_1533, wn1_RX7, wn2_RX7, wpd_17⟩
theorem wd_X7_cell : wd_V yX7_cell cX7_cell 3 (some .int) 2 := ⟨mw_1390, mw_1391, mw_104, mw_1392, wn1_RX7, wn2_RX7, wpd_17⟩
theorem wd_X7_cost : wd_V yX7_cost cX7_cost 2 (some .int) 1 := ⟨mw_1488, mw_1489, mw_104, mw_1490, wn1_RX7, wn2_RX7, wpd_10⟩
theorem wd_X7_count : wd_V yX7_count cX7_count 2 (some .int) 1 := ⟨mw_1484, mw_1485, mw_104, mw_1486, wn1_RX7, wn2_RX7, wpd_10⟩
theorem wd_X7_digest : wd_V yX7_digest cX7_digest 5 (some .long) 0 := ⟨mw_1474, mw_1475, mw_104, mw_1476, wn1_RX7, wn2_RX7, wpd_26⟩
theorem wd_X7_drum : wd_V yX7_drum cX7_drum 3 (some .int) 2 := ⟨mw_1398, mw_1399, mw_104, mw_1400, wn1_RX7, wn2_RX7, wpd_17⟩
theorem wd_X7_end : wd_V yX7_end cX7_end 2 (some .int) 1 := ⟨mw_1555, mw_1556, mw_104, mw_1557, wn1_RX7, wn2_RX7, wpd_10⟩
theorem wd_X7_exchange : wd_V yX7_exchange cX7_exchange 8 (some .int) 3 := ⟨mw_1370, mw_1371, mw_104, mw_1372, wn1_RX7, wn2_RX7, wpd_18⟩
theorem wd_X7_farthest : wd_V yX7_farthest cX7_farthest 7 (some .int) 2 := ⟨mw_1535, mw_1536, mw_104, mw_1537, wn1_RX7, wn2_RX7, wpd_17⟩
theorem wd_X7_feed : wd_V yX7_feed cX7_feed 6 (some .int) 5 := ⟨mw_1547, mw_1548, mw_104, mw_1549, wn1_RX7, wn2_RX7, wpd_45⟩
theorem wd_X7_init : wd_I yX7_init cX7_init 1 0 := ⟨mw_1126, mw_104, mw_1127, rfl, wn1_RX7, wn2_RX7, wpd_11⟩
theorem wd_X7_keep : wd_V yX7_keep cX7_keep 3 (some .int) 1 := ⟨mw_1382, mw_1383, mw_104, mw_1384, wn1_RX7, wn2_RX7, wpd_10⟩
theorem wd_X7_lacks : wd_V yX7_lacks cX7_lacks 6 (some .int) 2 := ⟨mw_1539, mw_1540, mw_104, mw_1541, wn1_RX7, wn2_RX7, wpd_17⟩
theorem wd_X7_left : wd_V yX7_left cX7_left 6 (some .int) 1 := ⟨mw_1440, mw_1441, mw_104, mw_1442, wn1_RX7, wn2_RX7, wpd_10⟩
theorem wd_X7_letter : wd_V yX7_letter cX7_letter 5 (some .int) 2 := ⟨mw_1480, mw_1481, mw_104, mw_1482, wn1_RX7, wn2_RX7, wpd_17⟩
theorem wd_X7_limit : wd_V yX7_limit cX7_limit 3 (some .int) 1 := ⟨mw_1366, mw_1367, mw_104, mw_1368, wn1_RX7, wn2_RX7, wpd_10⟩
theorem wd_X7_log : wd_V yX7_log cX7_log 3 (some .int) 2 := ⟨mw_1508, mw_1509, mw_104, mw_1510, wn1_RX7, wn2_RX7, wpd_17⟩
theorem wd_X7_lose : wd_V yX7_lose cX7_lose 4 (some .int) 2 := ⟨mw_1337, mw_1338, mw_104, mw_1339, wn1_RX7, wn2_RX7, wpd_17⟩
theorem wd_X7_loudest : wd_V yX7_loudest cX7_loudest 5 (some .int) 1 := ⟨mw_1697, mw_1698, mw_104, mw_1699, wn1_RX7, wn2_RX7, wpd_10⟩
theorem wd_X7_mend : wd_V yX7_mend cX7_mend 3 (some .int) 2 := ⟨mw_1361, mw_1362, mw_104, mw_1363, wn1_RX7, wn2_RX7, wpd_17⟩
theorem wd_X7_place : wd_V yX7_place cX7_place 7 (some .int) 2 := ⟨mw_1504, mw_1505, mw_104, mw_1506, wn1_RX7, wn2_RX7, wpd_17⟩
theorem wd_X7_rests : wd_V yX7_rests cX7_rests 4 (some .int) 1 := ⟨mw_1466, mw_1467, mw_104, mw_1468, wn1_RX7, wn2_RX7, wpd_10⟩
theorem wd_X7_row : wd_V yX7_row cX7_row 3 (some .int) 1 := ⟨mw_1202, mw_1203, mw_104, mw_1204, wn1_RX7, wn2_RX7, wpd_10⟩
theorem wd_X7_run : wd_V yX7_run cX7_run 2 (some .int) 0 := ⟨mw_1644, mw_1645, mw_104, mw_1646, wn1_RX7, wn2_RX7, wpd_4⟩
theorem wd_X7_scroll : wd_V yX7_scroll cX7_scroll 2 (some .int) 0 := ⟨mw_1280, mw_1281, mw_104, mw_1282, wn1_RX7, wn2_RX7, wpd_4⟩
theorem wd_X7_settle : wd_V yX7_settle cX7_settle 1 (some .int) 0 := ⟨mw_1329, mw_1330, mw_104, mw_1331, wn1_RX7, wn2_RX7, wpd_4⟩
theorem wd_X7_sign : wd_V yX7_sign cX7_sign 3 (some .int) 2 := ⟨mw_1414, mw_1415, mw_104, mw_1416, wn1_RX7, wn2_RX7, wpd_17⟩
theorem wd_X7_tell : wd_V yX7_tell cX7_tell 2 (some .int) 0 := ⟨mw_1559, mw_1560, mw_104, mw_1561, wn1_RX7, wn2_RX7, wpd_4⟩
theorem wd_X7_tick : wd_V yX7_tick cX7_tick 4 (some .int) 1 := ⟨mw_1300, mw_1301, mw_104, mw_1302, wn1_RX7, wn2_RX7, wpd_10⟩

theorem wd_X7_total : wd_V yX7_total cX7_total 2 (some .int) 1 := ⟨mw_1462, mw_1463, mw_104, mw_1464, wn1_RX7, wn2_RX7, wpd_10⟩
theorem wd_X7_undo : wd_V yX7_undo cX7_undo 2 (some .int) 0 := ⟨mw_1378, mw_1379, mw_104, mw_1380, wn1_RX7, wn2_RX7, wpd_4⟩
theorem wd_X7_unlike : wd_V yX7_unlike cX7_unlike 5 (some .int) 2 := ⟨mw_1470, mw_1471, mw_104, mw_1472, wn1_RX7, wn2_RX7, wpd_17⟩
theorem wd_X7_usual : wd_V yX7_usual cX7_usual 6 (some .int) 2 := ⟨mw_1701, mw_1702, mw_104, mw_1703, wn1_RX7, wn2_RX7, wpd_17⟩
theorem wd_X7_wear : wd_V yX7_wear cX7_wear 3 (some .int) 2 := ⟨mw_1346, mw_1347, mw_104, mw_1348, wn1_RX7, wn2_RX7, wpd_17⟩
theorem wd_X7_when : wd_V yX7_when cX7_when 8 (some .int) 1 := ⟨mw_1445, mw_1446, mw_104, mw_1447, wn1_RX7, wn2_RX7, wpd_10⟩
theorem wd_X7_which : wd_V yX7_which cX7_which 5 (some .long) 1 := ⟨mw_1427, mw_1428, mw_104, mw_1429, wn1_RX7, wn2_RX7, wpd_42⟩
theorem wd_X7_worn : wd_V yX7_worn cX7_worn 2 (some .long) 1 := ⟨mw_1394, mw_1395, mw_104, mw_1396, wn1_RX7, wn2_RX7, wpd_42⟩

theorem bdL_law_0 : (pre_b (List.drop 0 cL_law.data.toList) [187, 0, 7] && Nat.beq (0 * 256 + 7) 7) = true ∧ (pre_b (List.drop 3 cL_law.data.toList) [89]) = true ∧ (pre_b (List.drop 4 cL_law.data.toList) [183, 0, 9] && Nat.beq (0 * 256 + 9) 9) = true ∧ (pre_b (List.drop 7 cL_law.data.toList) [76]) = true ∧ (pre_b (List.drop 8 cL_law.data.toList) [187, 0, 10] && Nat.beq (0 * 256 + 10) 10) = true ∧ (pre_b (List.drop 11 cL_law.data.toList) [89]) = true ∧ (pre_b (List.drop 12 cL_law.data.toList) [183, 0, 12] && Nat.beq (0 * 256 + 12) 12) = true ∧ (pre_b (List.drop 15 cL_law.data.toList) [77]) = true ∧ (pre_b (List.drop 16 cL_law.data.toList) [3]) = true ∧ (pre_b (List.drop 17 cL_law.data.toList) [62]) = true ∧ (pre_b (List.drop 18 cL_law.data.toList) [29]) = true ∧ (pre_b (List.drop 19 cL_law.data.toList) [42]) = true := by decide +kernel
theorem dL_law_0 : decode cL_law 0 = .ok (.new 7, 3) := oq_187 bdL_law_0.1
theorem dL_law_3 : decode cL_law 3 = .ok (.dup, 1) := oq_89 bdL_law_0.2.1
theorem dL_law_4 : decode cL_law 4 = .ok (.invokespecial 9, 3) := oq_183 bdL_law_0.2.2.1
theorem dL_law_7 : decode cL_law 7 = .ok (.astore_n 1, 1) := oq_76 bdL_law_0.2.2.2.1
theorem dL_law_8 : decode cL_law 8 = .ok (.new 10, 3) := oq_187 bdL_law_0.2.2.2.2.1
theorem dL_law_11 : decode cL_law 11 = .ok (.dup, 1) := oq_89 bdL_law_0.2.2.2.2.2.1
theorem dL_law_12 : decode cL_law 12 = .ok (.invokespecial 12, 3) := oq_183 bdL_law_0.2.2.2.2.2.2.1
theorem dL_law_15 : decode cL_law 15 = .ok (.astore_n 2, 1) := oq_77 bdL_law_0.2.2.2.2.2.2.2.1
theorem dL_law_16 : decode cL_law 16 = .ok (.iconst 0, 1) := oq_3 bdL_law_0.2.2.2.2.2.2.2.2.1
theorem dL_law_17 : decode cL_law 17 = .ok (.istore_n 3, 1) := oq_62 bdL_law_0.2.2.2.2.2.2.2.2.2.1
theorem dL_law_18 : decode cL_law 18 = .ok (.iload_n 3, 1) := oq_29 bdL_law_0.2.2.2.2.2.2.2.2.2.2.1
theorem dL_law_19 : decode cL_law 19 = .ok (.aload_n 0, 1) := oq_42 bdL_law_0.2.2.2.2.2.2.2.2.2.2.2
theorem bdL_law_20 : (pre_b (List.drop 20 cL_law.data.toList) [190]) = true ∧ (pre_b (List.drop 21 cL_law.data.toList) [16, 6] && decide (Reader.signed 8 (6) = 6)) = true ∧ (pre_b (List.drop 23 cL_law.data.toList) [100]) = true ∧ (pre_b (List.drop 24 cL_law.data.toList) [163, 5, 36] && decide (Reader.signed 16 (5 * 256 + 36) = 1316)) = true ∧ (pre_b (List.drop 27 cL_law.data.toList) [42]) = true ∧ (pre_b (List.drop 28 cL_law.data.toList) [29]) = true ∧ (pre_b (List.drop 29 cL_law.data.toList) [46]) = true ∧ (pre_b (List.drop 30 cL_law.data.toList) [16, 63] && decide (Reader.signed 8 (63) = 63)) = true ∧ (pre_b (List.drop 32 cL_law.data.toList) [126]) = true := by decide +kernel
theorem dL_law_20 : decode cL_law 20 = .ok (.arraylength, 1) := oq_190 bdL_law_20.1
theorem dL_law_21 : decode cL_law 21 = .ok (.bipush 6, 2) := oq_16 bdL_law_20.2.1
theorem dL_law_23 : decode cL_law 23 = .ok (.isub, 1) := oq_100 bdL_law_20.2.2.1
theorem dL_law_24 : decode cL_law 24 = .ok (.if_icmp .gt 1316, 3) := oq_163 bdL_law_20.2.2.2.1
theorem dL_law_27 : decode cL_law 27 = .ok (.aload_n 0, 1) := oq_42 bdL_law_20.2.2.2.2.1
theorem dL_law_28 : decode cL_law 28 = .ok (.iload_n 3, 1) := oq_29 bdL_law_20.2.2.2.2.2.1
theorem dL_law_29 : decode cL_law 29 = .ok (.iaload, 1) := oq_46 bdL_law_20.2.2.2.2.2.2.1
theorem dL_law_30 : decode cL_law 30 = .ok (.bipush 63, 2) := oq_16 bdL_law_20.2.2.2.2.2.2.2.1
theorem dL_law_32 : decode cL_law 32 = .ok (.iand, 1) := oq_126 bdL_law_20.2.2.2.2.2.2.2.2
theorem dL_law_33 : decode cL_law 33 = .ok (.tableswitch 1301 0 39 #[175, 238, 261, 274, 297, 310, 333, 346, 379, 412, 445, 468, 511, 524, 537, 560, 583, 616, 639, 672, 705, 748, 771, 794, 817, 840, 863, 886, 919, 952, 985, 1044, 1077, 1110, 1143, 1176, 1199, 1232, 1265, 1278], 175) := by decide +kernel
theorem bdL_law_208 : (pre_b (List.drop 208 cL_law.data.toList) [43]) = true ∧ (pre_b (List.drop 209 cL_law.data.toList) [42]) = true ∧ (pre_b (List.drop 210 cL_law.data.toList) [29]) = true ∧ (pre_b (List.drop 211 cL_law.data.toList) [4]) = true ∧ (pre_b (List.drop 212 cL_law.data.toList) [96]) = true ∧ (pre_b (List.drop 213 cL_law.data.toList) [46]) = true ∧ (pre_b (List.drop 214 cL_law.data.toList) [42]) = true ∧ (pre_b (List.drop 215 cL_law.data.toList) [29]) = true ∧ (pre_b (List.drop 216 cL_law.data.toList) [5]) = true ∧ (pre_b (List.drop 217 cL_law.data.toList) [96]) = true ∧ (pre_b (List.drop 218 cL_law.data.toList) [46]) = true ∧ (pre_b (List.drop 219 cL_law.data.toList) [42]) = true := by decide +kernel
theorem dL_law_208 : decode cL_law 208 = .ok (.aload_n 1, 1) := oq_43 bdL_law_208.1
theorem dL_law_209 : decode cL_law 209 = .ok (.aload_n 0, 1) := oq_42 bdL_law_208.2.1
theorem dL_law_210 : decode cL_law 210 = .ok (.iload_n 3, 1) := oq_29 bdL_law_208.2.2.1
theorem dL_law_211 : decode cL_law 211 = .ok (.iconst 1, 1) := oq_4 bdL_law_208.2.2.2.1
theorem dL_law_212 : decode cL_law 212 = .ok (.iadd, 1) := oq_96 bdL_law_208.2.2.2.2.1
theorem dL_law_213 : decode cL_law 213 = .ok (.iaload, 1) := oq_46 bdL_law_208.2.2.2.2.2.1
theorem dL_law_214 : decode cL_law 214 = .ok (.aload_n 0, 1) := oq_42 bdL_law_208.2.2.2.2.2.2.1
theorem dL_law_215 : decode cL_law 215 = .ok (.iload_n 3, 1) := oq_29 bdL_law_208.2.2.2.2.2.2.2.1
theorem dL_law_216 : decode cL_law 216 = .ok (.iconst 2, 1) := oq_5 bdL_law_208.2.2.2.2.2.2.2.2.1
theorem dL_law_217 : decode cL_law 217 = .ok (.iadd, 1) := oq_96 bdL_law_208.2.2.2.2.2.2.2.2.2.1
theorem dL_law_218 : decode cL_law 218 = .ok (.iaload, 1) := oq_46 bdL_law_208.2.2.2.2.2.2.2.2.2.2.1
theorem dL_law_219 : decode cL_law 219 = .ok (.aload_n 0, 1) := oq_42 bdL_law_208.2.2.2.2.2.2.2.2.2.2.2
theorem bdL_law_220 : (pre_b (List.drop 220 cL_law.data.toList) [29]) = true ∧ (pre_b (List.drop 221 cL_law.data.toList) [6]) = true ∧ (pre_b (List.drop 222 cL_law.data.toList) [96]) = true ∧ (pre_b (List.drop 223 cL_law.data.toList) [46]) = true ∧ (pre_b (List.drop 224 cL_law.data.toList) [42]) = true ∧ (pre_b (List.drop 225 cL_law.data.toList) [29]) = true ∧ (pre_b (List.drop 226 cL_law.data.toList) [7]) = true ∧ (pre_b (List.drop 227 cL_law.data.toList) [96]) = true ∧ (pre_b (List.drop 228 cL_law.data.toList) [46]) = true ∧ (pre_b (List.drop 229 cL_law.data.toList) [42]) = true ∧ (pre_b (List.drop 230 cL_law.data.toList) [29]) = true ∧ (pre_b (List.drop 231 cL_law.data.toList) [8]) = true := by decide +kernel
theorem dL_law_220 : decode cL_law 220 = .ok (.iload_n 3, 1) := oq_29 bdL_law_220.1
theorem dL_law_221 : decode cL_law 221 = .ok (.iconst 3, 1) := oq_6 bdL_law_220.2.1
theorem dL_law_222 : decode cL_law 222 = .ok (.iadd, 1) := oq_96 bdL_law_220.2.2.1
theorem dL_law_223 : decode cL_law 223 = .ok (.iaload, 1) := oq_46 bdL_law_220.2.2.2.1
theorem dL_law_224 : decode cL_law 224 = .ok (.aload_n 0, 1) := oq_42 bdL_law_220.2.2.2.2.1
theorem dL_law_225 : decode cL_law 225 = .ok (.iload_n 3, 1) := oq_29 bdL_law_220.2.2.2.2.2.1
theorem dL_law_226 : decode cL_law 226 = .ok (.iconst 4, 1) := oq_7 bdL_law_220.2.2.2.2.2.2.1
theorem dL_law_227 : decode cL_law 227 = .ok (.iadd, 1) := oq_96 bdL_law_220.2.2.2.2.2.2.2.1
theorem dL_law_228 : decode cL_law 228 = .ok (.iaload, 1) := oq_46 bdL_law_220.2.2.2.2.2.2.2.2.1
theorem dL_law_229 : decode cL_law 229 = .ok (.aload_n 0, 1) := oq_42 bdL_law_220.2.2.2.2.2.2.2.2.2.1
theorem dL_law_230 : decode cL_law 230 = .ok (.iload_n 3, 1) := oq_29 bdL_law_220.2.2.2.2.2.2.2.2.2.2.1
theorem dL_law_231 : decode cL_law 231 = .ok (.iconst 5, 1) := oq_8 bdL_law_220.2.2.2.2.2.2.2.2.2.2.2
theorem bdL_law_232 : (pre_b (List.drop 232 cL_law.data.toList) [96]) = true ∧ (pre_b (List.drop 233 cL_law.data.toList) [46]) = true ∧ (pre_b (List.drop 234 cL_law.data.toList) [182, 0, 13] && Nat.beq (0 * 256 + 13) 13) = true ∧ (pre_b (List.drop 237 cL_law.data.toList) [87]) = true ∧ (pre_b (List.drop 238 cL_law.data.toList) [44]) = true ∧ (pre_b (List.drop 239 cL_law.data.toList) [42]) = true ∧ (pre_b (List.drop 240 cL_law.data.toList) [29]) = true ∧ (pre_b (List.drop 241 cL_law.data.toList) [4]) = true ∧ (pre_b (List.drop 242 cL_law.data.toList) [96]) = true ∧ (pre_b (List.drop 243 cL_law.data.toList) [46]) = true ∧ (pre_b (List.drop 244 cL_law.data.toList) [42]) = true ∧ (pre_b (List.drop 245 cL_law.data.toList) [29]) = true := by decide +kernel
theorem dL_law_232 : decode cL_law 232 = .ok (.iadd, 1) := oq_96 bdL_law_232.1
theorem dL_law_233 : decode cL_law 233 = .ok (.iaload, 1) := oq_46 bdL_law_232.2.1
theorem dL_law_234 : decode cL_law 234 = .ok (.invokevirtual 13, 3) := oq_182 bdL_law_232.2.2.1
theorem dL_law_237 : decode cL_law 237 = .ok (.pop, 1) := oq_87 bdL_law_232.2.2.2.1
theorem dL_law_238 : decode cL_law 238 = .ok (.aload_n 2, 1) := oq_44 bdL_law_232.2.2.2.2.1
theorem dL_law_239 : decode cL_law 239 = .ok (.aload_n 0, 1) := oq_42 bdL_law_232.2.2.2.2.2.1
theorem dL_law_240 : decode cL_law 240 = .ok (.iload_n 3, 1) := oq_29 bdL_law_232.2.2.2.2.2.2.1
theorem dL_law_241 : decode cL_law 241 = .ok (.iconst 1, 1) := oq_4 bdL_law_232.2.2.2.2.2.2.2.1
theorem dL_law_242 : decode cL_law 242 = .ok (.iadd, 1) := oq_96 bdL_law_232.2.2.2.2.2.2.2.2.1
theorem dL_law_243 : decode cL_law 243 = .ok (.iaload, 1) := oq_46 bdL_law_232.2.2.2.2.2.2.2.2.2.1
theorem dL_law_244 : decode cL_law 244 = .ok (.aload_n 0, 1) := oq_42 bdL_law_232.2.2.2.2.2.2.2.2.2.2.1
theorem dL_law_245 : decode cL_law 245 = .ok (.iload_n 3, 1) := oq_29 bdL_law_232.2.2.2.2.2.2.2.2.2.2.2
theorem bdL_law_246 : (pre_b (List.drop 246 cL_law.data.toList) [5]) = true ∧ (pre_b (List.drop 247 cL_law.data.toList) [96]) = true ∧ (pre_b (List.drop 248 cL_law.data.toList) [46]) = true ∧ (pre_b (List.drop 249 cL_law.data.toList) [42]) = true ∧ (pre_b (List.drop 250 cL_law.data.toList) [29]) = true ∧ (pre_b (List.drop 251 cL_law.data.toList) [6]) = true ∧ (pre_b (List.drop 252 cL_law.data.toList) [96]) = true ∧ (pre_b (List.drop 253 cL_law.data.toList) [46]) = true ∧ (pre_b (List.drop 254 cL_law.data.toList) [42]) = true ∧ (pre_b (List.drop 255 cL_law.data.toList) [29]) = true ∧ (pre_b (List.drop 256 cL_law.data.toList) [7]) = true ∧ (pre_b (List.drop 257 cL_law.data.toList) [96]) = true := by decide +kernel
theorem dL_law_246 : decode cL_law 246 = .ok (.iconst 2, 1) := oq_5 bdL_law_246.1
theorem dL_law_247 : decode cL_law 247 = .ok (.iadd, 1) := oq_96 bdL_law_246.2.1
theorem dL_law_248 : decode cL_law 248 = .ok (.iaload, 1) := oq_46 bdL_law_246.2.2.1
theorem dL_law_249 : decode cL_law 249 = .ok (.aload_n 0, 1) := oq_42 bdL_law_246.2.2.2.1
theorem dL_law_250 : decode cL_law 250 = .ok (.iload_n 3, 1) := oq_29 bdL_law_246.2.2.2.2.1
theorem dL_law_251 : decode cL_law 251 = .ok (.iconst 3, 1) := oq_6 bdL_law_246.2.2.2.2.2.1
theorem dL_law_252 : decode cL_law 252 = .ok (.iadd, 1) := oq_96 bdL_law_246.2.2.2.2.2.2.1
theorem dL_law_253 : decode cL_law 253 = .ok (.iaload, 1) := oq_46 bdL_law_246.2.2.2.2.2.2.2.1
theorem dL_law_254 : decode cL_law 254 = .ok (.aload_n 0, 1) := oq_42 bdL_law_246.2.2.2.2.2.2.2.2.1
theorem dL_law_255 : decode cL_law 255 = .ok (.iload_n 3, 1) := oq_29 bdL_law_246.2.2.2.2.2.2.2.2.2.1
theorem dL_law_256 : decode cL_law 256 = .ok (.iconst 4, 1) := oq_7 bdL_law_246.2.2.2.2.2.2.2.2.2.2.1
theorem dL_law_257 : decode cL_law 257 = .ok (.iadd, 1) := oq_96 bdL_law_246.2.2.2.2.2.2.2.2.2.2.2
theorem bdL_law_258 : (pre_b (List.drop 258 cL_law.data.toList) [46]) = true ∧ (pre_b (List.drop 259 cL_law.data.toList) [42]) = true ∧ (pre_b (List.drop 260 cL_law.data.toList) [29]) = true ∧ (pre_b (List.drop 261 cL_law.data.toList) [8]) = true ∧ (pre_b (List.drop 262 cL_law.data.toList) [96]) = true ∧ (pre_b (List.drop 263 cL_law.data.toList) [46]) = true ∧ (pre_b (List.drop 264 cL_law.data.toList) [182, 0, 17] && Nat.beq (0 * 256 + 17) 17) = true ∧ (pre_b (List.drop 267 cL_law.data.toList) [87]) = true ∧ (pre_b (List.drop 268 cL_law.data.toList) [167, 4, 42] && decide (Reader.signed 16 (4 * 256 + 42) = 1066)) = true ∧ (pre_b (List.drop 271 cL_law.data.toList) [43]) = true ∧ (pre_b (List.drop 272 cL_law.data.toList) [42]) = true ∧ (pre_b (List.drop 273 cL_law.data.toList) [29]) = true := by decide +kernel
theorem dL_law_258 : decode cL_law 258 = .ok (.iaload, 1) := oq_46 bdL_law_258.1
theorem dL_law_259 : decode cL_law 259 = .ok (.aload_n 0, 1) := oq_42 bdL_law_258.2.1
theorem dL_law_260 : decode cL_law 260 = .ok (.iload_n 3, 1) := oq_29 bdL_law_258.2.2.1
theorem dL_law_261 : decode cL_law 261 = .ok (.iconst 5, 1) := oq_8 bdL_law_258.2.2.2.1
theorem dL_law_262 : decode cL_law 262 = .ok (.iadd, 1) := oq_96 bdL_law_258.2.2.2.2.1
theorem dL_law_263 : decode cL_law 263 = .ok (.iaload, 1) := oq_46 bdL_law_258.2.2.2.2.2.1
theorem dL_law_264 : decode cL_law 264 = .ok (.invokevirtual 17, 3) := oq_182 bdL_law_258.2.2.2.2.2.2.1
theorem dL_law_267 : decode cL_law 267 = .ok (.pop, 1) := oq_87 bdL_law_258.2.2.2.2.2.2.2.1
theorem dL_law_268 : decode cL_law 268 = .ok (.goto 1066, 3) := oq_167 bdL_law_258.2.2.2.2.2.2.2.2.1
theorem dL_law_271 : decode cL_law 271 = .ok (.aload_n 1, 1) := oq_43 bdL_law_258.2.2.2.2.2.2.2.2.2.1
theorem dL_law_272 : decode cL_law 272 = .ok (.aload_n 0, 1) := oq_42 bdL_law_258.2.2.2.2.2.2.2.2.2.2.1
theorem dL_law_273 : decode cL_law 273 = .ok (.iload_n 3, 1) := oq_29 bdL_law_258.2.2.2.2.2.2.2.2.2.2.2
theorem bdL_law_274 : (pre_b (List.drop 274 cL_law.data.toList) [4]) = true ∧ (pre_b (List.drop 275 cL_law.data.toList) [96]) = true ∧ (pre_b (List.drop 276 cL_law.data.toList) [46]) = true ∧ (pre_b (List.drop 277 cL_law.data.toList) [182, 0, 18] && Nat.beq (0 * 256 + 18) 18) = true ∧ (pre_b (List.drop 280 cL_law.data.toList) [87]) = true ∧ (pre_b (List.drop 281 cL_law.data.toList) [44]) = true ∧ (pre_b (List.drop 282 cL_law.data.toList) [42]) = true ∧ (pre_b (List.drop 283 cL_law.data.toList) [29]) = true ∧ (pre_b (List.drop 284 cL_law.data.toList) [4]) = true ∧ (pre_b (List.drop 285 cL_law.data.toList) [96]) = true ∧ (pre_b (List.drop 286 cL_law.data.toList) [46]) = true ∧ (pre_b (List.drop 287 cL_law.data.toList) [182, 0, 22] && Nat.beq (0 * 256 + 22) 22) = true := by decide +kernel
theorem dL_law_274 : decode cL_law 274 = .ok (.iconst 1, 1) := oq_4 bdL_law_274.1
theorem dL_law_275 : decode cL_law 275 = .ok (.iadd, 1) := oq_96 bdL_law_274.2.1
theorem dL_law_276 : decode cL_law 276 = .ok (.iaload, 1) := oq_46 bdL_law_274.2.2.1
theorem dL_law_277 : decode cL_law 277 = .ok (.invokevirtual 18, 3) := oq_182 bdL_law_274.2.2.2.1
theorem dL_law_280 : decode cL_law 280 = .ok (.pop, 1) := oq_87 bdL_law_274.2.2.2.2.1
theorem dL_law_281 : decode cL_law 281 = .ok (.aload_n 2, 1) := oq_44 bdL_law_274.2.2.2.2.2.1
theorem dL_law_282 : decode cL_law 282 = .ok (.aload_n 0, 1) := oq_42 bdL_law_274.2.2.2.2.2.2.1
theorem dL_law_283 : decode cL_law 283 = .ok (.iload_n 3, 1) := oq_29 bdL_law_274.2.2.2.2.2.2.2.1
theorem dL_law_284 : decode cL_law 284 = .ok (.iconst 1, 1) := oq_4 bdL_law_274.2.2.2.2.2.2.2.2.1
theorem dL_law_285 : decode cL_law 285 = .ok (.iadd, 1) := oq_96 bdL_law_274.2.2.2.2.2.2.2.2.2.1
theorem dL_law_286 : decode cL_law 286 = .ok (.iaload, 1) := oq_46 bdL_law_274.2.2.2.2.2.2.2.2.2.2.1
theorem dL_law_287 : decode cL_law 287 = .ok (.invokevirtual 22, 3) := oq_182 bdL_law_274.2.2.2.2.2.2.2.2.2.2.2
theorem bdL_law_290 : (pre_b (List.drop 290 cL_law.data.toList) [87]) = true ∧ (pre_b (List.drop 291 cL_law.data.toList) [167, 4, 19] && decide (Reader.signed 16 (4 * 256 + 19) = 1043)) = true ∧ (pre_b (List.drop 294 cL_law.data.toList) [43]) = true ∧ (pre_b (List.drop 295 cL_law.data.toList) [182, 0, 23] && Nat.beq (0 * 256 + 23) 23) = true ∧ (pre_b (List.drop 298 cL_law.data.toList) [87]) = true ∧ (pre_b (List.drop 299 cL_law.data.toList) [44]) = true ∧ (pre_b (List.drop 300 cL_law.data.toList) [182, 0, 27] && Nat.beq (0 * 256 + 27) 27) = true ∧ (pre_b (List.drop 303 cL_law.data.toList) [87]) = true ∧ (pre_b (List.drop 304 cL_law.data.toList) [167, 4, 6] && decide (Reader.signed 16 (4 * 256 + 6) = 1030)) = true ∧ (pre_b (List.drop 307 cL_law.data.toList) [43]) = true ∧ (pre_b (List.drop 308 cL_law.data.toList) [42]) = true ∧ (pre_b (List.drop 309 cL_law.data.toList) [29]) = true := by decide +kernel
theorem dL_law_290 : decode cL_law 290 = .ok (.pop, 1) := oq_87 bdL_law_290.1
theorem dL_law_291 : decode cL_law 291 = .ok (.goto 1043, 3) := oq_167 bdL_law_290.2.1
theorem dL_law_294 : decode cL_law 294 = .ok (.aload_n 1, 1) := oq_43 bdL_law_290.2.2.1
theorem dL_law_295 : decode cL_law 295 = .ok (.invokevirtual 23, 3) := oq_182 bdL_law_290.2.2.2.1
theorem dL_law_298 : decode cL_law 298 = .ok (.pop, 1) := oq_87 bdL_law_290.2.2.2.2.1
theorem dL_law_299 : decode cL_law 299 = .ok (.aload_n 2, 1) := oq_44 bdL_law_290.2.2.2.2.2.1
theorem dL_law_300 : decode cL_law 300 = .ok (.invokevirtual 27, 3) := oq_182 bdL_law_290.2.2.2.2.2.2.1
theorem dL_law_303 : decode cL_law 303 = .ok (.pop, 1) := oq_87 bdL_law_290.2.2.2.2.2.2.2.1
theorem dL_law_304 : decode cL_law 304 = .ok (.goto 1030, 3) := oq_167 bdL_law_290.2.2.2.2.2.2.2.2.1
theorem dL_law_307 : decode cL_law 307 = .ok (.aload_n 1, 1) := oq_43 bdL_law_290.2.2.2.2.2.2.2.2.2.1
theorem dL_law_308 : decode cL_law 308 = .ok (.aload_n 0, 1) := oq_42 bdL_law_290.2.2.2.2.2.2.2.2.2.2.1
theorem dL_law_309 : decode cL_law 309 = .ok (.iload_n 3, 1) := oq_29 bdL_law_290.2.2.2.2.2.2.2.2.2.2.2
theorem bdL_law_310 : (pre_b (List.drop 310 cL_law.data.toList) [4]) = true ∧ (pre_b (List.drop 311 cL_law.data.toList) [96]) = true ∧ (pre_b (List.drop 312 cL_law.data.toList) [46]) = true ∧ (pre_b (List.drop 313 cL_law.data.toList) [182, 0, 28] && Nat.beq (0 * 256 + 28) 28) = true ∧ (pre_b (List.drop 316 cL_law.data.toList) [87]) = true ∧ (pre_b (List.drop 317 cL_law.data.toList) [44]) = true ∧ (pre_b (List.drop 318 cL_law.data.toList) [42]) = true ∧ (pre_b (List.drop 319 cL_law.data.toList) [29]) = true ∧ (pre_b (List.drop 320 cL_law.data.toList) [4]) = true ∧ (pre_b (List.drop 321 cL_law.data.toList) [96]) = true ∧ (pre_b (List.drop 322 cL_law.data.toList) [46]) = true ∧ (pre_b (List.drop 323 cL_law.data.toList) [182, 0, 31] && Nat.beq (0 * 256 + 31) 31) = true := by decide +kernel
theorem dL_law_310 : decode cL_law 310 = .ok (.iconst 1, 1) := oq_4 bdL_law_310.1
theorem dL_law_311 : decode cL_law 311 = .ok (.iadd, 1) := oq_96 bdL_law_310.2.1
theorem dL_law_312 : decode cL_law 312 = .ok (.iaload, 1) := oq_46 bdL_law_310.2.2.1
theorem dL_law_313 : decode cL_law 313 = .ok (.invokevirtual 28, 3) := oq_182 bdL_law_310.2.2.2.1
theorem dL_law_316 : decode cL_law 316 = .ok (.pop, 1) := oq_87 bdL_law_310.2.2.2.2.1
theorem dL_law_317 : decode cL_law 317 = .ok (.aload_n 2, 1) := oq_44 bdL_law_310.2.2.2.2.2.1
theorem dL_law_318 : decode cL_law 318 = .ok (.aload_n 0, 1) := oq_42 bdL_law_310.2.2.2.2.2.2.1
theorem dL_law_319 : decode cL_law 319 = .ok (.iload_n 3, 1) := oq_29 bdL_law_310.2.2.2.2.2.2.2.1
theorem dL_law_320 : decode cL_law 320 = .ok (.iconst 1, 1) := oq_4 bdL_law_310.2.2.2.2.2.2.2.2.1
theorem dL_law_321 : decode cL_law 321 = .ok (.iadd, 1) := oq_96 bdL_law_310.2.2.2.2.2.2.2.2.2.1
theorem dL_law_322 : decode cL_law 322 = .ok (.iaload, 1) := oq_46 bdL_law_310.2.2.2.2.2.2.2.2.2.2.1
theorem dL_law_323 : decode cL_law 323 = .ok (.invokevirtual 31, 3) := oq_182 bdL_law_310.2.2.2.2.2.2.2.2.2.2.2
theorem bdL_law_326 : (pre_b (List.drop 326 cL_law.data.toList) [87]) = true ∧ (pre_b (List.drop 327 cL_law.data.toList) [167, 3, 239] && decide (Reader.signed 16 (3 * 256 + 239) = 1007)) = true := by decide +kernel
theorem dL_law_326 : decode cL_law 326 = .ok (.pop, 1) := oq_87 bdL_law_326.1
theorem dL_law_327 : decode cL_law 327 = .ok (.goto 1007, 3) := oq_167 bdL_law_326.2

theorem bdL_law_330 : (pre_b (List.drop 330 cL_law.data.toList) [43]) = true ∧ (pre_b (List.drop 331 cL_law.data.toList) [182, 0, 32] && Nat.beq (0 * 256 + 32) 32) = true ∧ (pre_b (List.drop 334 cL_law.data.toList) [87]) = true ∧ (pre_b (List.drop 335 cL_law.data.toList) [44]) = true ∧ (pre_b (List.drop 336 cL_law.data.toList) [182, 0, 35] && Nat.beq (0 * 256 + 35) 35) = true ∧ (pre_b (List.drop 339 cL_law.data.toList) [87]) = true ∧ (pre_b (List.drop 340 cL_law.data.toList) [167, 3, 226] && decide (Reader.signed 16 (3 * 256 + 226) = 994)) = true ∧ (pre_b (List.drop 343 cL_law.data.toList) [43]) = true ∧ (pre_b (List.drop 344 cL_law.data.toList) [42]) = true ∧ (pre_b (List.drop 345 cL_law.data.toList) [29]) = true ∧ (pre_b (List.drop 346 cL_law.data.toList) [4]) = true ∧ (pre_b (List.drop 347 cL_law.data.toList) [96]) = true := by decide +kernel
theorem dL_law_330 : decode cL_law 330 = .ok (.aload_n 1, 1) := oq_43 bdL_law_330.1
theorem dL_law_331 : decode cL_law 331 = .ok (.invokevirtual 32, 3) := oq_182 bdL_law_330.2.1
theorem dL_law_334 : decode cL_law 334 = .ok (.pop, 1) := oq_87 bdL_law_330.2.2.1
theorem dL_law_335 : decode cL_law 335 = .ok (.aload_n 2, 1) := oq_44 bdL_law_330.2.2.2.1
theorem dL_law_336 : decode cL_law 336 = .ok (.invokevirtual 35, 3) := oq_182 bdL_law_330.2.2.2.2.1
theorem dL_law_339 : decode cL_law 339 = .ok (.pop, 1) := oq_87 bdL_law_330.2.2.2.2.2.1
theorem dL_law_340 : decode cL_law 340 = .ok (.goto 994, 3) := oq_167 bdL_law_330.2.2.2.2.2.2.1
theorem dL_law_343 : decode cL_law 343 = .ok (.aload_n 1, 1) := oq_43 bdL_law_330.2.2.2.2.2.2.2.1
theorem dL_law_344 : decode cL_law 344 = .ok (.aload_n 0, 1) := oq_42 bdL_law_330.2.2.2.2.2.2.2.2.1
theorem dL_law_345 : decode cL_law 345 = .ok (.iload_n 3, 1) := oq_29 bdL_law_330.2.2.2.2.2.2.2.2.2.1
theorem dL_law_346 : decode cL_law 346 = .ok (.iconst 1, 1) := oq_4 bdL_law_330.2.2.2.2.2.2.2.2.2.2.1
theorem dL_law_347 : decode cL_law 347 = .ok (.iadd, 1) := oq_96 bdL_law_330.2.2.2.2.2.2.2.2.2.2.2
theorem bdL_law_348 : (pre_b (List.drop 348 cL_law.data.toList) [46]) = true ∧ (pre_b (List.drop 349 cL_law.data.toList) [182, 0, 36] && Nat.beq (0 * 256 + 36) 36) = true ∧ (pre_b (List.drop 352 cL_law.data.toList) [87]) = true ∧ (pre_b (List.drop 353 cL_law.data.toList) [44]) = true ∧ (pre_b (List.drop 354 cL_law.data.toList) [42]) = true ∧ (pre_b (List.drop 355 cL_law.data.toList) [29]) = true ∧ (pre_b (List.drop 356 cL_law.data.toList) [4]) = true ∧ (pre_b (List.drop 357 cL_law.data.toList) [96]) = true ∧ (pre_b (List.drop 358 cL_law.data.toList) [46]) = true ∧ (pre_b (List.drop 359 cL_law.data.toList) [182, 0, 39] && Nat.beq (0 * 256 + 39) 39) = true ∧ (pre_b (List.drop 362 cL_law.data.toList) [87]) = true ∧ (pre_b (List.drop 363 cL_law.data.toList) [167, 3, 203] && decide (Reader.signed 16 (3 * 256 + 203) = 971)) = true := by decide +kernel
theorem dL_law_348 : decode cL_law 348 = .ok (.iaload, 1) := oq_46 bdL_law_348.1
theorem dL_law_349 : decode cL_law 349 = .ok (.invokevirtual 36, 3) := oq_182 bdL_law_348.2.1
theorem dL_law_352 : decode cL_law 352 = .ok (.pop, 1) := oq_87 bdL_law_348.2.2.1
theorem dL_law_353 : decode cL_law 353 = .ok (.aload_n 2, 1) := oq_44 bdL_law_348.2.2.2.1
theorem dL_law_354 : decode cL_law 354 = .ok (.aload_n 0, 1) := oq_42 bdL_law_348.2.2.2.2.1
theorem dL_law_355 : decode cL_law 355 = .ok (.iload_n 3, 1) := oq_29 bdL_law_348.2.2.2.2.2.1
theorem dL_law_356 : decode cL_law 356 = .ok (.iconst 1, 1) := oq_4 bdL_law_348.2.2.2.2.2.2.1
theorem dL_law_357 : decode cL_law 357 = .ok (.iadd, 1) := oq_96 bdL_law_348.2.2.2.2.2.2.2.1
theorem dL_law_358 : decode cL_law 358 = .ok (.iaload, 1) := oq_46 bdL_law_348.2.2.2.2.2.2.2.2.1
theorem dL_law_359 : decode cL_law 359 = .ok (.invokevirtual 39, 3) := oq_182 bdL_law_348.2.2.2.2.2.2.2.2.2.1
theorem dL_law_362 : decode cL_law 362 = .ok (.pop, 1) := oq_87 bdL_law_348.2.2.2.2.2.2.2.2.2.2.1
theorem dL_law_363 : decode cL_law 363 = .ok (.goto 971, 3) := oq_167 bdL_law_348.2.2.2.2.2.2.2.2.2.2.2
theorem bdL_law_366 : (pre_b (List.drop 366 cL_law.data.toList) [43]) = true ∧ (pre_b (List.drop 367 cL_law.data.toList) [182, 0, 40] && Nat.beq (0 * 256 + 40) 40) = true ∧ (pre_b (List.drop 370 cL_law.data.toList) [87]) = true ∧ (pre_b (List.drop 371 cL_law.data.toList) [44]) = true ∧ (pre_b (List.drop 372 cL_law.data.toList) [182, 0, 43] && Nat.beq (0 * 256 + 43) 43) = true ∧ (pre_b (List.drop 375 cL_law.data.toList) [87]) = true ∧ (pre_b (List.drop 376 cL_law.data.toList) [167, 3, 190] && decide (Reader.signed 16 (3 * 256 + 190) = 958)) = true ∧ (pre_b (List.drop 379 cL_law.data.toList) [43]) = true ∧ (pre_b (List.drop 380 cL_law.data.toList) [42]) = true ∧ (pre_b (List.drop 381 cL_law.data.toList) [29]) = true ∧ (pre_b (List.drop 382 cL_law.data.toList) [4]) = true ∧ (pre_b (List.drop 383 cL_law.data.toList) [96]) = true := by decide +kernel
theorem dL_law_366 : decode cL_law 366 = .ok (.aload_n 1, 1) := oq_43 bdL_law_366.1
theorem dL_law_367 : decode cL_law 367 = .ok (.invokevirtual 40, 3) := oq_182 bdL_law_366.2.1
theorem dL_law_370 : decode cL_law 370 = .ok (.pop, 1) := oq_87 bdL_law_366.2.2.1
theorem dL_law_371 : decode cL_law 371 = .ok (.aload_n 2, 1) := oq_44 bdL_law_366.2.2.2.1
theorem dL_law_372 : decode cL_law 372 = .ok (.invokevirtual 43, 3) := oq_182 bdL_law_366.2.2.2.2.1
theorem dL_law_375 : decode cL_law 375 = .ok (.pop, 1) := oq_87 bdL_law_366.2.2.2.2.2.1
theorem dL_law_376 : decode cL_law 376 = .ok (.goto 958, 3) := oq_167 bdL_law_366.2.2.2.2.2.2.1
theorem dL_law_379 : decode cL_law 379 = .ok (.aload_n 1, 1) := oq_43 bdL_law_366.2.2.2.2.2.2.2.1
theorem dL_law_380 : decode cL_law 380 = .ok (.aload_n 0, 1) := oq_42 bdL_law_366.2.2.2.2.2.2.2.2.1
theorem dL_law_381 : decode cL_law 381 = .ok (.iload_n 3, 1) := oq_29 bdL_law_366.2.2.2.2.2.2.2.2.2.1
theorem dL_law_382 : decode cL_law 382 = .ok (.iconst 1, 1) := oq_4 bdL_law_366.2.2.2.2.2.2.2.2.2.2.1
theorem dL_law_383 : decode cL_law 383 = .ok (.iadd, 1) := oq_96 bdL_law_366.2.2.2.2.2.2.2.2.2.2.2
theorem bdL_law_384 : (pre_b (List.drop 384 cL_law.data.toList) [46]) = true ∧ (pre_b (List.drop 385 cL_law.data.toList) [42]) = true ∧ (pre_b (List.drop 386 cL_law.data.toList) [29]) = true ∧ (pre_b (List.drop 387 cL_law.data.toList) [5]) = true ∧ (pre_b (List.drop 388 cL_law.data.toList) [96]) = true ∧ (pre_b (List.drop 389 cL_law.data.toList) [46]) = true ∧ (pre_b (List.drop 390 cL_law.data.toList) [182, 0, 44] && Nat.beq (0 * 256 + 44) 44) = true ∧ (pre_b (List.drop 393 cL_law.data.toList) [87]) = true ∧ (pre_b (List.drop 394 cL_law.data.toList) [44]) = true ∧ (pre_b (List.drop 395 cL_law.data.toList) [42]) = true ∧ (pre_b (List.drop 396 cL_law.data.toList) [29]) = true ∧ (pre_b (List.drop 397 cL_law.data.toList) [4]) = true := by decide +kernel
theorem dL_law_384 : decode cL_law 384 = .ok (.iaload, 1) := oq_46 bdL_law_384.1
theorem dL_law_385 : decode cL_law 385 = .ok (.aload_n 0, 1) := oq_42 bdL_law_384.2.1
theorem dL_law_386 : decode cL_law 386 = .ok (.iload_n 3, 1) := oq_29 bdL_law_384.2.2.1
theorem dL_law_387 : decode cL_law 387 = .ok (.iconst 2, 1) := oq_5 bdL_law_384.2.2.2.1
theorem dL_law_388 : decode cL_law 388 = .ok (.iadd, 1) := oq_96 bdL_law_384.2.2.2.2.1
theorem dL_law_389 : decode cL_law 389 = .ok (.iaload, 1) := oq_46 bdL_law_384.2.2.2.2.2.1
theorem dL_law_390 : decode cL_law 390 = .ok (.invokevirtual 44, 3) := oq_182 bdL_law_384.2.2.2.2.2.2.1
theorem dL_law_393 : decode cL_law 393 = .ok (.pop, 1) := oq_87 bdL_law_384.2.2.2.2.2.2.2.1
theorem dL_law_394 : decode cL_law 394 = .ok (.aload_n 2, 1) := oq_44 bdL_law_384.2.2.2.2.2.2.2.2.1
theorem dL_law_395 : decode cL_law 395 = .ok (.aload_n 0, 1) := oq_42 bdL_law_384.2.2.2.2.2.2.2.2.2.1
theorem dL_law_396 : decode cL_law 396 = .ok (.iload_n 3, 1) := oq_29 bdL_law_384.2.2.2.2.2.2.2.2.2.2.1
theorem dL_law_397 : decode cL_law 397 = .ok (.iconst 1, 1) := oq_4 bdL_law_384.2.2.2.2.2.2.2.2.2.2.2
theorem bdL_law_398 : (pre_b (List.drop 398 cL_law.data.toList) [96]) = true ∧ (pre_b (List.drop 399 cL_law.data.toList) [46]) = true ∧ (pre_b (List.drop 400 cL_law.data.toList) [42]) = true ∧ (pre_b (List.drop 401 cL_law.data.toList) [29]) = true ∧ (pre_b (List.drop 402 cL_law.data.toList) [5]) = true ∧ (pre_b (List.drop 403 cL_law.data.toList) [96]) = true ∧ (pre_b (List.drop 404 cL_law.data.toList) [46]) = true ∧ (pre_b (List.drop 405 cL_law.data.toList) [182, 0, 48] && Nat.beq (0 * 256 + 48) 48) = true ∧ (pre_b (List.drop 408 cL_law.data.toList) [87]) = true ∧ (pre_b (List.drop 409 cL_law.data.toList) [167, 3, 157] && decide (Reader.signed 16 (3 * 256 + 157) = 925)) = true ∧ (pre_b (List.drop 412 cL_law.data.toList) [43]) = true ∧ (pre_b (List.drop 413 cL_law.data.toList) [42]) = true := by decide +kernel
theorem dL_law_398 : decode cL_law 398 = .ok (.iadd, 1) := oq_96 bdL_law_398.1
theorem dL_law_399 : decode cL_law 399 = .ok (.iaload, 1) := oq_46 bdL_law_398.2.1
theorem dL_law_400 : decode cL_law 400 = .ok (.aload_n 0, 1) := oq_42 bdL_law_398.2.2.1
theorem dL_law_401 : decode cL_law 401 = .ok (.iload_n 3, 1) := oq_29 bdL_law_398.2.2.2.1
theorem dL_law_402 : decode cL_law 402 = .ok (.iconst 2, 1) := oq_5 bdL_law_398.2.2.2.2.1
theorem dL_law_403 : decode cL_law 403 = .ok (.iadd, 1) := oq_96 bdL_law_398.2.2.2.2.2.1
theorem dL_law_404 : decode cL_law 404 = .ok (.iaload, 1) := oq_46 bdL_law_398.2.2.2.2.2.2.1
theorem dL_law_405 : decode cL_law 405 = .ok (.invokevirtual 48, 3) := oq_182 bdL_law_398.2.2.2.2.2.2.2.1
theorem dL_law_408 : decode cL_law 408 = .ok (.pop, 1) := oq_87 bdL_law_398.2.2.2.2.2.2.2.2.1
theorem dL_law_409 : decode cL_law 409 = .ok (.goto 925, 3) := oq_167 bdL_law_398.2.2.2.2.2.2.2.2.2.1
theorem dL_law_412 : decode cL_law 412 = .ok (.aload_n 1, 1) := oq_43 bdL_law_398.2.2.2.2.2.2.2.2.2.2.1
theorem dL_law_413 : decode cL_law 413 = .ok (.aload_n 0, 1) := oq_42 bdL_law_398.2.2.2.2.2.2.2.2.2.2.2
theorem bdL_law_414 : (pre_b (List.drop 414 cL_law.data.toList) [29]) = true ∧ (pre_b (List.drop 415 cL_law.data.toList) [4]) = true ∧ (pre_b (List.drop 416 cL_law.data.toList) [96]) = true ∧ (pre_b (List.drop 417 cL_law.data.toList) [46]) = true ∧ (pre_b (List.drop 418 cL_law.data.toList) [42]) = true ∧ (pre_b (List.drop 419 cL_law.data.toList) [29]) = true ∧ (pre_b (List.drop 420 cL_law.data.toList) [5]) = true ∧ (pre_b (List.drop 421 cL_law.data.toList) [96]) = true ∧ (pre_b (List.drop 422 cL_law.data.toList) [46]) = true ∧ (pre_b (List.drop 423 cL_law.data.toList) [182, 0, 49] && Nat.beq (0 * 256 + 49) 49) = true ∧ (pre_b (List.drop 426 cL_law.data.toList) [87]) = true ∧ (pre_b (List.drop 427 cL_law.data.toList) [44]) = true := by decide +kernel
theorem dL_law_414 : decode cL_law 414 = .ok (.iload_n 3, 1) := oq_29 bdL_law_414.1
theorem dL_law_415 : decode cL_law 415 = .ok (.iconst 1, 1) := oq_4 bdL_law_414.2.1
theorem dL_law_416 : decode cL_law 416 = .ok (.iadd, 1) := oq_96 bdL_law_414.2.2.1
theorem dL_law_417 : decode cL_law 417 = .ok (.iaload, 1) := oq_46 bdL_law_414.2.2.2.1
theorem dL_law_418 : decode cL_law 418 = .ok (.aload_n 0, 1) := oq_42 bdL_law_414.2.2.2.2.1
theorem dL_law_419 : decode cL_law 419 = .ok (.iload_n 3, 1) := oq_29 bdL_law_414.2.2.2.2.2.1
theorem dL_law_420 : decode cL_law 420 = .ok (.iconst 2, 1) := oq_5 bdL_law_414.2.2.2.2.2.2.1
theorem dL_law_421 : decode cL_law 421 = .ok (.iadd, 1) := oq_96 bdL_law_414.2.2.2.2.2.2.2.1
theorem dL_law_422 : decode cL_law 422 = .ok (.iaload, 1) := oq_46 bdL_law_414.2.2.2.2.2.2.2.2.1
theorem dL_law_423 : decode cL_law 423 = .ok (.invokevirtual 49, 3) := oq_182 bdL_law_414.2.2.2.2.2.2.2.2.2.1
theorem dL_law_426 : decode cL_law 426 = .ok (.pop, 1) := oq_87 bdL_law_414.2.2.2.2.2.2.2.2.2.2.1
theorem dL_law_427 : decode cL_law 427 = .ok (.aload_n 2, 1) := oq_44 bdL_law_414.2.2.2.2.2.2.2.2.2.2.2
theorem bdL_law_428 : (pre_b (List.drop 428 cL_law.data.toList) [42]) = true ∧ (pre_b (List.drop 429 cL_law.data.toList) [29]) = true ∧ (pre_b (List.drop 430 cL_law.data.toList) [4]) = true ∧ (pre_b (List.drop 431 cL_law.data.toList) [96]) = true ∧ (pre_b (List.drop 432 cL_law.data.toList) [46]) = true ∧ (pre_b (List.drop 433 cL_law.data.toList) [42]) = true ∧ (pre_b (List.drop 434 cL_law.data.toList) [29]) = true ∧ (pre_b (List.drop 435 cL_law.data.toList) [5]) = true ∧ (pre_b (List.drop 436 cL_law.data.toList) [96]) = true ∧ (pre_b (List.drop 437 cL_law.data.toList) [46]) = true ∧ (pre_b (List.drop 438 cL_law.data.toList) [182, 0, 52] && Nat.beq (0 * 256 + 52) 52) = true ∧ (pre_b (List.drop 441 cL_law.data.toList) [87]) = true := by decide +kernel
theorem dL_law_428 : decode cL_law 428 = .ok (.aload_n 0, 1) := oq_42 bdL_law_428.1
theorem dL_law_429 : decode cL_law 429 = .ok (.iload_n 3, 1) := oq_29 bdL_law_428.2.1
theorem dL_law_430 : decode cL_law 430 = .ok (.iconst 1, 1) := oq_4 bdL_law_428.2.2.1
theorem dL_law_431 : decode cL_law 431 = .ok (.iadd, 1) := oq_96 bdL_law_428.2.2.2.1
theorem dL_law_432 : decode cL_law 432 = .ok (.iaload, 1) := oq_46 bdL_law_428.2.2.2.2.1
theorem dL_law_433 : decode cL_law 433 = .ok (.aload_n 0, 1) := oq_42 bdL_law_428.2.2.2.2.2.1
theorem dL_law_434 : decode cL_law 434 = .ok (.iload_n 3, 1) := oq_29 bdL_law_428.2.2.2.2.2.2.1
theorem dL_law_435 : decode cL_law 435 = .ok (.iconst 2, 1) := oq_5 bdL_law_428.2.2.2.2.2.2.2.1
theorem dL_law_436 : decode cL_law 436 = .ok (.iadd, 1) := oq_96 bdL_law_428.2.2.2.2.2.2.2.2.1
theorem dL_law_437 : decode cL_law 437 = .ok (.iaload, 1) := oq_46 bdL_law_428.2.2.2.2.2.2.2.2.2.1
theorem dL_law_438 : decode cL_law 438 = .ok (.invokevirtual 52, 3) := oq_182 bdL_law_428.2.2.2.2.2.2.2.2.2.2.1
theorem dL_law_441 : decode cL_law 441 = .ok (.pop, 1) := oq_87 bdL_law_428.2.2.2.2.2.2.2.2.2.2.2
theorem bdL_law_442 : (pre_b (List.drop 442 cL_law.data.toList) [167, 3, 124] && decide (Reader.signed 16 (3 * 256 + 124) = 892)) = true ∧ (pre_b (List.drop 445 cL_law.data.toList) [43]) = true ∧ (pre_b (List.drop 446 cL_law.data.toList) [42]) = true ∧ (pre_b (List.drop 447 cL_law.data.toList) [29]) = true ∧ (pre_b (List.drop 448 cL_law.data.toList) [4]) = true ∧ (pre_b (List.drop 449 cL_law.data.toList) [96]) = true ∧ (pre_b (List.drop 450 cL_law.data.toList) [46]) = true ∧ (pre_b (List.drop 451 cL_law.data.toList) [42]) = true ∧ (pre_b (List.drop 452 cL_law.data.toList) [29]) = true ∧ (pre_b (List.drop 453 cL_law.data.toList) [5]) = true ∧ (pre_b (List.drop 454 cL_law.data.toList) [96]) = true ∧ (pre_b (List.drop 455 cL_law.data.toList) [46]) = true := by decide +kernel
theorem dL_law_442 : decode cL_law 442 = .ok (.goto 892, 3) := oq_167 bdL_law_442.1
theorem dL_law_445 : decode cL_law 445 = .ok (.aload_n 1, 1) := oq_43 bdL_law_442.2.1
theorem dL_law_446 : decode cL_law 446 = .ok (.aload_n 0, 1) := oq_42 bdL_law_442.2.2.1
theorem dL_law_447 : decode cL_law 447 = .ok (.iload_n 3, 1) := oq_29 bdL_law_442.2.2.2.1
theorem dL_law_448 : decode cL_law 448 = .ok (.iconst 1, 1) := oq_4 bdL_law_442.2.2.2.2.1
theorem dL_law_449 : decode cL_law 449 = .ok (.iadd, 1) := oq_96 bdL_law_442.2.2.2.2.2.1
theorem dL_law_450 : decode cL_law 450 = .ok (.iaload, 1) := oq_46 bdL_law_442.2.2.2.2.2.2.1
theorem dL_law_451 : decode cL_law 451 = .ok (.aload_n 0, 1) := oq_42 bdL_law_442.2.2.2.2.2.2.2.1
theorem dL_law_452 : decode cL_law 452 = .ok (.iload_n 3, 1) := oq_29 bdL_law_442.2.2.2.2.2.2.2.2.1
theorem dL_law_453 : decode cL_law 453 = .ok (.iconst 2, 1) := oq_5 bdL_law_442.2.2.2.2.2.2.2.2.2.1
theorem dL_law_454 : decode cL_law 454 = .ok (.iadd, 1) := oq_96 bdL_law_442.2.2.2.2.2.2.2.2.2.2.1
theorem dL_law_455 : decode cL_law 455 = .ok (.iaload, 1) := oq_46 bdL_law_442.2.2.2.2.2.2.2.2.2.2.2
theorem bdL_law_456 : (pre_b (List.drop 456 cL_law.data.toList) [182, 0, 53] && Nat.beq (0 * 256 + 53) 53) = true ∧ (pre_b (List.drop 459 cL_law.data.toList) [87]) = true ∧ (pre_b (List.drop 460 cL_law.data.toList) [44]) = true ∧ (pre_b (List.drop 461 cL_law.data.toList) [42]) = true ∧ (pre_b (List.drop 462 cL_law.data.toList) [29]) = true ∧ (pre_b (List.drop 463 cL_law.data.toList) [4]) = true ∧ (pre_b (List.drop 464 cL_law.data.toList) [96]) = true ∧ (pre_b (List.drop 465 cL_law.data.toList) [46]) = true ∧ (pre_b (List.drop 466 cL_law.data.toList) [42]) = true ∧ (pre_b (List.drop 467 cL_law.data.toList) [29]) = true ∧ (pre_b (List.drop 468 cL_law.data.toList) [5]) = true ∧ (pre_b (List.drop 469 cL_law.data.toList) [96]) = true := by decide +kernel
theorem dL_law_456 : decode cL_law 456 = .ok (.invokevirtual 53, 3) := oq_182 bdL_law_456.1
theorem dL_law_459 : decode cL_law 459 = .ok (.pop, 1) := oq_87 bdL_law_456.2.1
theorem dL_law_460 : decode cL_law 460 = .ok (.aload_n 2, 1) := oq_44 bdL_law_456.2.2.1
theorem dL_law_461 : decode cL_law 461 = .ok (.aload_n 0, 1) := oq_42 bdL_law_456.2.2.2.1
theorem dL_law_462 : decode cL_law 462 = .ok (.iload_n 3, 1) := oq_29 bdL_law_456.2.2.2.2.1
theorem dL_law_463 : decode cL_law 463 = .ok (.iconst 1, 1) := oq_4 bdL_law_456.2.2.2.2.2.1
theorem dL_law_464 : decode cL_law 464 = .ok (.iadd, 1) := oq_96 bdL_law_456.2.2.2.2.2.2.1
theorem dL_law_465 : decode cL_law 465 = .ok (.iaload, 1) := oq_46 bdL_law_456.2.2.2.2.2.2.2.1
theorem dL_law_466 : decode cL_law 466 = .ok (.aload_n 0, 1) := oq_42 bdL_law_456.2.2.2.2.2.2.2.2.1
theorem dL_law_467 : decode cL_law 467 = .ok (.iload_n 3, 1) := oq_29 bdL_law_456.2.2.2.2.2.2.2.2.2.1
theorem dL_law_468 : decode cL_law 468 = .ok (.iconst 2, 1) := oq_5 bdL_law_456.2.2.2.2.2.2.2.2.2.2.1
theorem dL_law_469 : decode cL_law 469 = .ok (.iadd, 1) := oq_96 bdL_law_456.2.2.2.2.2.2.2.2.2.2.2
theorem bdL_law_470 : (pre_b (List.drop 470 cL_law.data.toList) [46]) = true ∧ (pre_b (List.drop 471 cL_law.data.toList) [182, 0, 56] && Nat.beq (0 * 256 + 56) 56) = true ∧ (pre_b (List.drop 474 cL_law.data.toList) [87]) = true ∧ (pre_b (List.drop 475 cL_law.data.toList) [167, 3, 91] && decide (Reader.signed 16 (3 * 256 + 91) = 859)) = true ∧ (pre_b (List.drop 478 cL_law.data.toList) [43]) = true ∧ (pre_b (List.drop 479 cL_law.data.toList) [42]) = true ∧ (pre_b (List.drop 480 cL_law.data.toList) [29]) = true ∧ (pre_b (List.drop 481 cL_law.data.toList) [4]) = true ∧ (pre_b (List.drop 482 cL_law.data.toList) [96]) = true ∧ (pre_b (List.drop 483 cL_law.data.toList) [46]) = true ∧ (pre_b (List.drop 484 cL_law.data.toList) [182, 0, 57] && Nat.beq (0 * 256 + 57) 57) = true ∧ (pre_b (List.drop 487 cL_law.data.toList) [87]) = true := by decide +kernel
theorem dL_law_470 : decode cL_law 470 = .ok (.iaload, 1) := oq_46 bdL_law_470.1
theorem dL_law_471 : decode cL_law 471 = .ok (.invokevirtual 56, 3) := oq_182 bdL_law_470.2.1
theorem dL_law_474 : decode cL_law 474 = .ok (.pop, 1) := oq_87 bdL_law_470.2.2.1
theorem dL_law_475 : decode cL_law 475 = .ok (.goto 859, 3) := oq_167 bdL_law_470.2.2.2.1
theorem dL_law_478 : decode cL_law 478 = .ok (.aload_n 1, 1) := oq_43 bdL_law_470.2.2.2.2.1
theorem dL_law_479 : decode cL_law 479 = .ok (.aload_n 0, 1) := oq_42 bdL_law_470.2.2.2.2.2.1
theorem dL_law_480 : decode cL_law 480 = .ok (.iload_n 3, 1) := oq_29 bdL_law_470.2.2.2.2.2.2.1
theorem dL_law_481 : decode cL_law 481 = .ok (.iconst 1, 1) := oq_4 bdL_law_470.2.2.2.2.2.2.2.1
theorem dL_law_482 : decode cL_law 482 = .ok (.iadd, 1) := oq_96 bdL_law_470.2.2.2.2.2.2.2.2.1
theorem dL_law_483 : decode cL_law 483 = .ok (.iaload, 1) := oq_46 bdL_law_470.2.2.2.2.2.2.2.2.2.1
theorem dL_law_484 : decode cL_law 484 = .ok (.invokevirtual 57, 3) := oq_182 bdL_law_470.2.2.2.2.2.2.2.2.2.2.1
theorem dL_law_487 : decode cL_law 487 = .ok (.pop, 1) := oq_87 bdL_law_470.2.2.2.2.2.2.2.2.2.2.2

theorem bdL_law_488 : (pre_b (List.drop 488 cL_law.data.toList) [44]) = true ∧ (pre_b (List.drop 489 cL_law.data.toList) [42]) = true ∧ (pre_b (List.drop 490 cL_law.data.toList) [29]) = true ∧ (pre_b (List.drop 491 cL_law.data.toList) [4]) = true ∧ (pre_b (List.drop 492 cL_law.data.toList) [96]) = true ∧ (pre_b (List.drop 493 cL_law.data.toList) [46]) = true ∧ (pre_b (List.drop 494 cL_law.data.toList) [182, 0, 60] && Nat.beq (0 * 256 + 60) 60) = true ∧ (pre_b (List.drop 497 cL_law.data.toList) [87]) = true ∧ (pre_b (List.drop 498 cL_law.data.toList) [167, 3, 68] && decide (Reader.signed 16 (3 * 256 + 68) = 836)) = true ∧ (pre_b (List.drop 501 cL_law.data.toList) [43]) = true ∧ (pre_b (List.drop 502 cL_law.data.toList) [42]) = true ∧ (pre_b (List.drop 503 cL_law.data.toList) [29]) = true := by decide +kernel
theorem dL_law_488 : decode cL_law 488 = .ok (.aload_n 2, 1) := oq_44 bdL_law_488.1
theorem dL_law_489 : decode cL_law 489 = .ok (.aload_n 0, 1) := oq_42 bdL_law_488.2.1
theorem dL_law_490 : decode cL_law 490 = .ok (.iload_n 3, 1) := oq_29 bdL_law_488.2.2.1
theorem dL_law_491 : decode cL_law 491 = .ok (.iconst 1, 1) := oq_4 bdL_law_488.2.2.2.1
theorem dL_law_492 : decode cL_law 492 = .ok (.iadd, 1) := oq_96 bdL_law_488.2.2.2.2.1
theorem dL_law_493 : decode cL_law 493 = .ok (.iaload, 1) := oq_46 bdL_law_488.2.2.2.2.2.1
theorem dL_law_494 : decode cL_law 494 = .ok (.invokevirtual 60, 3) := oq_182 bdL_law_488.2.2.2.2.2.2.1
theorem dL_law_497 : decode cL_law 497 = .ok (.pop, 1) := oq_87 bdL_law_488.2.2.2.2.2.2.2.1
theorem dL_law_498 : decode cL_law 498 = .ok (.goto 836, 3) := oq_167 bdL_law_488.2.2.2.2.2.2.2.2.1
theorem dL_law_501 : decode cL_law 501 = .ok (.aload_n 1, 1) := oq_43 bdL_law_488.2.2.2.2.2.2.2.2.2.1
theorem dL_law_502 : decode cL_law 502 = .ok (.aload_n 0, 1) := oq_42 bdL_law_488.2.2.2.2.2.2.2.2.2.2.1
theorem dL_law_503 : decode cL_law 503 = .ok (.iload_n 3, 1) := oq_29 bdL_law_488.2.2.2.2.2.2.2.2.2.2.2
theorem bdL_law_504 : (pre_b (List.drop 504 cL_law.data.toList) [4]) = true ∧ (pre_b (List.drop 505 cL_law.data.toList) [96]) = true ∧ (pre_b (List.drop 506 cL_law.data.toList) [46]) = true ∧ (pre_b (List.drop 507 cL_law.data.toList) [42]) = true ∧ (pre_b (List.drop 508 cL_law.data.toList) [29]) = true ∧ (pre_b (List.drop 509 cL_law.data.toList) [5]) = true ∧ (pre_b (List.drop 510 cL_law.data.toList) [96]) = true ∧ (pre_b (List.drop 511 cL_law.data.toList) [46]) = true ∧ (pre_b (List.drop 512 cL_law.data.toList) [42]) = true ∧ (pre_b (List.drop 513 cL_law.data.toList) [29]) = true ∧ (pre_b (List.drop 514 cL_law.data.toList) [6]) = true ∧ (pre_b (List.drop 515 cL_law.data.toList) [96]) = true := by decide +kernel
theorem dL_law_504 : decode cL_law 504 = .ok (.iconst 1, 1) := oq_4 bdL_law_504.1
theorem dL_law_505 : decode cL_law 505 = .ok (.iadd, 1) := oq_96 bdL_law_504.2.1
theorem dL_law_506 : decode cL_law 506 = .ok (.iaload, 1) := oq_46 bdL_law_504.2.2.1
theorem dL_law_507 : decode cL_law 507 = .ok (.aload_n 0, 1) := oq_42 bdL_law_504.2.2.2.1
theorem dL_law_508 : decode cL_law 508 = .ok (.iload_n 3, 1) := oq_29 bdL_law_504.2.2.2.2.1
theorem dL_law_509 : decode cL_law 509 = .ok (.iconst 2, 1) := oq_5 bdL_law_504.2.2.2.2.2.1
theorem dL_law_510 : decode cL_law 510 = .ok (.iadd, 1) := oq_96 bdL_law_504.2.2.2.2.2.2.1
theorem dL_law_511 : decode cL_law 511 = .ok (.iaload, 1) := oq_46 bdL_law_504.2.2.2.2.2.2.2.1
theorem dL_law_512 : decode cL_law 512 = .ok (.aload_n 0, 1) := oq_42 bdL_law_504.2.2.2.2.2.2.2.2.1
theorem dL_law_513 : decode cL_law 513 = .ok (.iload_n 3, 1) := oq_29 bdL_law_504.2.2.2.2.2.2.2.2.2.1
theorem dL_law_514 : decode cL_law 514 = .ok (.iconst 3, 1) := oq_6 bdL_law_504.2.2.2.2.2.2.2.2.2.2.1
theorem dL_law_515 : decode cL_law 515 = .ok (.iadd, 1) := oq_96 bdL_law_504.2.2.2.2.2.2.2.2.2.2.2
theorem bdL_law_516 : (pre_b (List.drop 516 cL_law.data.toList) [46]) = true ∧ (pre_b (List.drop 517 cL_law.data.toList) [182, 0, 61] && Nat.beq (0 * 256 + 61) 61) = true ∧ (pre_b (List.drop 520 cL_law.data.toList) [87]) = true ∧ (pre_b (List.drop 521 cL_law.data.toList) [44]) = true ∧ (pre_b (List.drop 522 cL_law.data.toList) [42]) = true ∧ (pre_b (List.drop 523 cL_law.data.toList) [29]) = true ∧ (pre_b (List.drop 524 cL_law.data.toList) [4]) = true ∧ (pre_b (List.drop 525 cL_law.data.toList) [96]) = true ∧ (pre_b (List.drop 526 cL_law.data.toList) [46]) = true ∧ (pre_b (List.drop 527 cL_law.data.toList) [42]) = true ∧ (pre_b (List.drop 528 cL_law.data.toList) [29]) = true ∧ (pre_b (List.drop 529 cL_law.data.toList) [5]) = true := by decide +kernel
theorem dL_law_516 : decode cL_law 516 = .ok (.iaload, 1) := oq_46 bdL_law_516.1
theorem dL_law_517 : decode cL_law 517 = .ok (.invokevirtual 61, 3) := oq_182 bdL_law_516.2.1
theorem dL_law_520 : decode cL_law 520 = .ok (.pop, 1) := oq_87 bdL_law_516.2.2.1
theorem dL_law_521 : decode cL_law 521 = .ok (.aload_n 2, 1) := oq_44 bdL_law_516.2.2.2.1
theorem dL_law_522 : decode cL_law 522 = .ok (.aload_n 0, 1) := oq_42 bdL_law_516.2.2.2.2.1
theorem dL_law_523 : decode cL_law 523 = .ok (.iload_n 3, 1) := oq_29 bdL_law_516.2.2.2.2.2.1
theorem dL_law_524 : decode cL_law 524 = .ok (.iconst 1, 1) := oq_4 bdL_law_516.2.2.2.2.2.2.1
theorem dL_law_525 : decode cL_law 525 = .ok (.iadd, 1) := oq_96 bdL_law_516.2.2.2.2.2.2.2.1
theorem dL_law_526 : decode cL_law 526 = .ok (.iaload, 1) := oq_46 bdL_law_516.2.2.2.2.2.2.2.2.1
theorem dL_law_527 : decode cL_law 527 = .ok (.aload_n 0, 1) := oq_42 bdL_law_516.2.2.2.2.2.2.2.2.2.1
theorem dL_law_528 : decode cL_law 528 = .ok (.iload_n 3, 1) := oq_29 bdL_law_516.2.2.2.2.2.2.2.2.2.2.1
theorem dL_law_529 : decode cL_law 529 = .ok (.iconst 2, 1) := oq_5 bdL_law_516.2.2.2.2.2.2.2.2.2.2.2
theorem bdL_law_530 : (pre_b (List.drop 530 cL_law.data.toList) [96]) = true ∧ (pre_b (List.drop 531 cL_law.data.toList) [46]) = true ∧ (pre_b (List.drop 532 cL_law.data.toList) [42]) = true ∧ (pre_b (List.drop 533 cL_law.data.toList) [29]) = true ∧ (pre_b (List.drop 534 cL_law.data.toList) [6]) = true ∧ (pre_b (List.drop 535 cL_law.data.toList) [96]) = true ∧ (pre_b (List.drop 536 cL_law.data.toList) [46]) = true ∧ (pre_b (List.drop 537 cL_law.data.toList) [182, 0, 65] && Nat.beq (0 * 256 + 65) 65) = true ∧ (pre_b (List.drop 540 cL_law.data.toList) [87]) = true ∧ (pre_b (List.drop 541 cL_law.data.toList) [167, 3, 25] && decide (Reader.signed 16 (3 * 256 + 25) = 793)) = true ∧ (pre_b (List.drop 544 cL_law.data.toList) [43]) = true ∧ (pre_b (List.drop 545 cL_law.data.toList) [182, 0, 66] && Nat.beq (0 * 256 + 66) 66) = true := by decide +kernel
theorem dL_law_530 : decode cL_law 530 = .ok (.iadd, 1) := oq_96 bdL_law_530.1
theorem dL_law_531 : decode cL_law 531 = .ok (.iaload, 1) := oq_46 bdL_law_530.2.1
theorem dL_law_532 : decode cL_law 532 = .ok (.aload_n 0, 1) := oq_42 bdL_law_530.2.2.1
theorem dL_law_533 : decode cL_law 533 = .ok (.iload_n 3, 1) := oq_29 bdL_law_530.2.2.2.1
theorem dL_law_534 : decode cL_law 534 = .ok (.iconst 3, 1) := oq_6 bdL_law_530.2.2.2.2.1
theorem dL_law_535 : decode cL_law 535 = .ok (.iadd, 1) := oq_96 bdL_law_530.2.2.2.2.2.1
theorem dL_law_536 : decode cL_law 536 = .ok (.iaload, 1) := oq_46 bdL_law_530.2.2.2.2.2.2.1
theorem dL_law_537 : decode cL_law 537 = .ok (.invokevirtual 65, 3) := oq_182 bdL_law_530.2.2.2.2.2.2.2.1
theorem dL_law_540 : decode cL_law 540 = .ok (.pop, 1) := oq_87 bdL_law_530.2.2.2.2.2.2.2.2.1
theorem dL_law_541 : decode cL_law 541 = .ok (.goto 793, 3) := oq_167 bdL_law_530.2.2.2.2.2.2.2.2.2.1
theorem dL_law_544 : decode cL_law 544 = .ok (.aload_n 1, 1) := oq_43 bdL_law_530.2.2.2.2.2.2.2.2.2.2.1
theorem dL_law_545 : decode cL_law 545 = .ok (.invokevirtual 66, 3) := oq_182 bdL_law_530.2.2.2.2.2.2.2.2.2.2.2
theorem bdL_law_548 : (pre_b (List.drop 548 cL_law.data.toList) [87]) = true ∧ (pre_b (List.drop 549 cL_law.data.toList) [44]) = true ∧ (pre_b (List.drop 550 cL_law.data.toList) [182, 0, 69] && Nat.beq (0 * 256 + 69) 69) = true ∧ (pre_b (List.drop 553 cL_law.data.toList) [87]) = true ∧ (pre_b (List.drop 554 cL_law.data.toList) [167, 3, 12] && decide (Reader.signed 16 (3 * 256 + 12) = 780)) = true ∧ (pre_b (List.drop 557 cL_law.data.toList) [43]) = true ∧ (pre_b (List.drop 558 cL_law.data.toList) [182, 0, 70] && Nat.beq (0 * 256 + 70) 70) = true ∧ (pre_b (List.drop 561 cL_law.data.toList) [87]) = true ∧ (pre_b (List.drop 562 cL_law.data.toList) [44]) = true ∧ (pre_b (List.drop 563 cL_law.data.toList) [182, 0, 73] && Nat.beq (0 * 256 + 73) 73) = true ∧ (pre_b (List.drop 566 cL_law.data.toList) [87]) = true ∧ (pre_b (List.drop 567 cL_law.data.toList) [167, 2, 255] && decide (Reader.signed 16 (2 * 256 + 255) = 767)) = true := by decide +kernel
theorem dL_law_548 : decode cL_law 548 = .ok (.pop, 1) := oq_87 bdL_law_548.1
theorem dL_law_549 : decode cL_law 549 = .ok (.aload_n 2, 1) := oq_44 bdL_law_548.2.1
theorem dL_law_550 : decode cL_law 550 = .ok (.invokevirtual 69, 3) := oq_182 bdL_law_548.2.2.1
theorem dL_law_553 : decode cL_law 553 = .ok (.pop, 1) := oq_87 bdL_law_548.2.2.2.1
theorem dL_law_554 : decode cL_law 554 = .ok (.goto 780, 3) := oq_167 bdL_law_548.2.2.2.2.1
theorem dL_law_557 : decode cL_law 557 = .ok (.aload_n 1, 1) := oq_43 bdL_law_548.2.2.2.2.2.1
theorem dL_law_558 : decode cL_law 558 = .ok (.invokevirtual 70, 3) := oq_182 bdL_law_548.2.2.2.2.2.2.1
theorem dL_law_561 : decode cL_law 561 = .ok (.pop, 1) := oq_87 bdL_law_548.2.2.2.2.2.2.2.1
theorem dL_law_562 : decode cL_law 562 = .ok (.aload_n 2, 1) := oq_44 bdL_law_548.2.2.2.2.2.2.2.2.1
theorem dL_law_563 : decode cL_law 563 = .ok (.invokevirtual 73, 3) := oq_182 bdL_law_548.2.2.2.2.2.2.2.2.2.1
theorem dL_law_566 : decode cL_law 566 = .ok (.pop, 1) := oq_87 bdL_law_548.2.2.2.2.2.2.2.2.2.2.1
theorem dL_law_567 : decode cL_law 567 = .ok (.goto 767, 3) := oq_167 bdL_law_548.2.2.2.2.2.2.2.2.2.2.2
theorem bdL_law_570 : (pre_b (List.drop 570 cL_law.data.toList) [43]) = true ∧ (pre_b (List.drop 571 cL_law.data.toList) [42]) = true ∧ (pre_b (List.drop 572 cL_law.data.toList) [29]) = true ∧ (pre_b (List.drop 573 cL_law.data.toList) [4]) = true ∧ (pre_b (List.drop 574 cL_law.data.toList) [96]) = true ∧ (pre_b (List.drop 575 cL_law.data.toList) [46]) = true ∧ (pre_b (List.drop 576 cL_law.data.toList) [182, 0, 74] && Nat.beq (0 * 256 + 74) 74) = true ∧ (pre_b (List.drop 579 cL_law.data.toList) [87]) = true ∧ (pre_b (List.drop 580 cL_law.data.toList) [44]) = true ∧ (pre_b (List.drop 581 cL_law.data.toList) [42]) = true ∧ (pre_b (List.drop 582 cL_law.data.toList) [29]) = true ∧ (pre_b (List.drop 583 cL_law.data.toList) [4]) = true := by decide +kernel
theorem dL_law_570 : decode cL_law 570 = .ok (.aload_n 1, 1) := oq_43 bdL_law_570.1
theorem dL_law_571 : decode cL_law 571 = .ok (.aload_n 0, 1) := oq_42 bdL_law_570.2.1
theorem dL_law_572 : decode cL_law 572 = .ok (.iload_n 3, 1) := oq_29 bdL_law_570.2.2.1
theorem dL_law_573 : decode cL_law 573 = .ok (.iconst 1, 1) := oq_4 bdL_law_570.2.2.2.1
theorem dL_law_574 : decode cL_law 574 = .ok (.iadd, 1) := oq_96 bdL_law_570.2.2.2.2.1
theorem dL_law_575 : decode cL_law 575 = .ok (.iaload, 1) := oq_46 bdL_law_570.2.2.2.2.2.1
theorem dL_law_576 : decode cL_law 576 = .ok (.invokevirtual 74, 3) := oq_182 bdL_law_570.2.2.2.2.2.2.1
theorem dL_law_579 : decode cL_law 579 = .ok (.pop, 1) := oq_87 bdL_law_570.2.2.2.2.2.2.2.1
theorem dL_law_580 : decode cL_law 580 = .ok (.aload_n 2, 1) := oq_44 bdL_law_570.2.2.2.2.2.2.2.2.1
theorem dL_law_581 : decode cL_law 581 = .ok (.aload_n 0, 1) := oq_42 bdL_law_570.2.2.2.2.2.2.2.2.2.1
theorem dL_law_582 : decode cL_law 582 = .ok (.iload_n 3, 1) := oq_29 bdL_law_570.2.2.2.2.2.2.2.2.2.2.1
theorem dL_law_583 : decode cL_law 583 = .ok (.iconst 1, 1) := oq_4 bdL_law_570.2.2.2.2.2.2.2.2.2.2.2
theorem bdL_law_584 : (pre_b (List.drop 584 cL_law.data.toList) [96]) = true ∧ (pre_b (List.drop 585 cL_law.data.toList) [46]) = true ∧ (pre_b (List.drop 586 cL_law.data.toList) [182, 0, 77] && Nat.beq (0 * 256 + 77) 77) = true ∧ (pre_b (List.drop 589 cL_law.data.toList) [87]) = true ∧ (pre_b (List.drop 590 cL_law.data.toList) [167, 2, 232] && decide (Reader.signed 16 (2 * 256 + 232) = 744)) = true ∧ (pre_b (List.drop 593 cL_law.data.toList) [43]) = true ∧ (pre_b (List.drop 594 cL_law.data.toList) [42]) = true ∧ (pre_b (List.drop 595 cL_law.data.toList) [29]) = true ∧ (pre_b (List.drop 596 cL_law.data.toList) [4]) = true ∧ (pre_b (List.drop 597 cL_law.data.toList) [96]) = true ∧ (pre_b (List.drop 598 cL_law.data.toList) [46]) = true ∧ (pre_b (List.drop 599 cL_law.data.toList) [182, 0, 78] && Nat.beq (0 * 256 + 78) 78) = true := by decide +kernel
theorem dL_law_584 : decode cL_law 584 = .ok (.iadd, 1) := oq_96 bdL_law_584.1
theorem dL_law_585 : decode cL_law 585 = .ok (.iaload, 1) := oq_46 bdL_law_584.2.1
theorem dL_law_586 : decode cL_law 586 = .ok (.invokevirtual 77, 3) := oq_182 bdL_law_584.2.2.1
theorem dL_law_589 : decode cL_law 589 = .ok (.pop, 1) := oq_87 bdL_law_584.2.2.2.1
theorem dL_law_590 : decode cL_law 590 = .ok (.goto 744, 3) := oq_167 bdL_law_584.2.2.2.2.1
theorem dL_law_593 : decode cL_law 593 = .ok (.aload_n 1, 1) := oq_43 bdL_law_584.2.2.2.2.2.1
theorem dL_law_594 : decode cL_law 594 = .ok (.aload_n 0, 1) := oq_42 bdL_law_584.2.2.2.2.2.2.1
theorem dL_law_595 : decode cL_law 595 = .ok (.iload_n 3, 1) := oq_29 bdL_law_584.2.2.2.2.2.2.2.1
theorem dL_law_596 : decode cL_law 596 = .ok (.iconst 1, 1) := oq_4 bdL_law_584.2.2.2.2.2.2.2.2.1
theorem dL_law_597 : decode cL_law 597 = .ok (.iadd, 1) := oq_96 bdL_law_584.2.2.2.2.2.2.2.2.2.1
theorem dL_law_598 : decode cL_law 598 = .ok (.iaload, 1) := oq_46 bdL_law_584.2.2.2.2.2.2.2.2.2.2.1
theorem dL_law_599 : decode cL_law 599 = .ok (.invokevirtual 78, 3) := oq_182 bdL_law_584.2.2.2.2.2.2.2.2.2.2.2
theorem bdL_law_602 : (pre_b (List.drop 602 cL_law.data.toList) [87]) = true ∧ (pre_b (List.drop 603 cL_law.data.toList) [44]) = true ∧ (pre_b (List.drop 604 cL_law.data.toList) [42]) = true ∧ (pre_b (List.drop 605 cL_law.data.toList) [29]) = true ∧ (pre_b (List.drop 606 cL_law.data.toList) [4]) = true ∧ (pre_b (List.drop 607 cL_law.data.toList) [96]) = true ∧ (pre_b (List.drop 608 cL_law.data.toList) [46]) = true ∧ (pre_b (List.drop 609 cL_law.data.toList) [182, 0, 81] && Nat.beq (0 * 256 + 81) 81) = true ∧ (pre_b (List.drop 612 cL_law.data.toList) [87]) = true ∧ (pre_b (List.drop 613 cL_law.data.toList) [167, 2, 209] && decide (Reader.signed 16 (2 * 256 + 209) = 721)) = true ∧ (pre_b (List.drop 616 cL_law.data.toList) [43]) = true ∧ (pre_b (List.drop 617 cL_law.data.toList) [42]) = true := by decide +kernel
theorem dL_law_602 : decode cL_law 602 = .ok (.pop, 1) := oq_87 bdL_law_602.1
theorem dL_law_603 : decode cL_law 603 = .ok (.aload_n 2, 1) := oq_44 bdL_law_602.2.1
theorem dL_law_604 : decode cL_law 604 = .ok (.aload_n 0, 1) := oq_42 bdL_law_602.2.2.1
theorem dL_law_605 : decode cL_law 605 = .ok (.iload_n 3, 1) := oq_29 bdL_law_602.2.2.2.1
theorem dL_law_606 : decode cL_law 606 = .ok (.iconst 1, 1) := oq_4 bdL_law_602.2.2.2.2.1
theorem dL_law_607 : decode cL_law 607 = .ok (.iadd, 1) := oq_96 bdL_law_602.2.2.2.2.2.1
theorem dL_law_608 : decode cL_law 608 = .ok (.iaload, 1) := oq_46 bdL_law_602.2.2.2.2.2.2.1
theorem dL_law_609 : decode cL_law 609 = .ok (.invokevirtual 81, 3) := oq_182 bdL_law_602.2.2.2.2.2.2.2.1
theorem dL_law_612 : decode cL_law 612 = .ok (.pop, 1) := oq_87 bdL_law_602.2.2.2.2.2.2.2.2.1
theorem dL_law_613 : decode cL_law 613 = .ok (.goto 721, 3) := oq_167 bdL_law_602.2.2.2.2.2.2.2.2.2.1
theorem dL_law_616 : decode cL_law 616 = .ok (.aload_n 1, 1) := oq_43 bdL_law_602.2.2.2.2.2.2.2.2.2.2.1
theorem dL_law_617 : decode cL_law 617 = .ok (.aload_n 0, 1) := oq_42 bdL_law_602.2.2.2.2.2.2.2.2.2.2.2
theorem bdL_law_618 : (pre_b (List.drop 618 cL_law.data.toList) [29]) = true ∧ (pre_b (List.drop 619 cL_law.data.toList) [4]) = true ∧ (pre_b (List.drop 620 cL_law.data.toList) [96]) = true ∧ (pre_b (List.drop 621 cL_law.data.toList) [46]) = true ∧ (pre_b (List.drop 622 cL_law.data.toList) [42]) = true ∧ (pre_b (List.drop 623 cL_law.data.toList) [29]) = true ∧ (pre_b (List.drop 624 cL_law.data.toList) [5]) = true ∧ (pre_b (List.drop 625 cL_law.data.toList) [96]) = true ∧ (pre_b (List.drop 626 cL_law.data.toList) [46]) = true ∧ (pre_b (List.drop 627 cL_law.data.toList) [182, 0, 82] && Nat.beq (0 * 256 + 82) 82) = true ∧ (pre_b (List.drop 630 cL_law.data.toList) [87]) = true ∧ (pre_b (List.drop 631 cL_law.data.toList) [44]) = true := by decide +kernel
theorem dL_law_618 : decode cL_law 618 = .ok (.iload_n 3, 1) := oq_29 bdL_law_618.1
theorem dL_law_619 : decode cL_law 619 = .ok (.iconst 1, 1) := oq_4 bdL_law_618.2.1
theorem dL_law_620 : decode cL_law 620 = .ok (.iadd, 1) := oq_96 bdL_law_618.2.2.1
theorem dL_law_621 : decode cL_law 621 = .ok (.iaload, 1) := oq_46 bdL_law_618.2.2.2.1
theorem dL_law_622 : decode cL_law 622 = .ok (.aload_n 0, 1) := oq_42 bdL_law_618.2.2.2.2.1
theorem dL_law_623 : decode cL_law 623 = .ok (.iload_n 3, 1) := oq_29 bdL_law_618.2.2.2.2.2.1
theorem dL_law_624 : decode cL_law 624 = .ok (.iconst 2, 1) := oq_5 bdL_law_618.2.2.2.2.2.2.1
theorem dL_law_625 : decode cL_law 625 = .ok (.iadd, 1) := oq_96 bdL_law_618.2.2.2.2.2.2.2.1
theorem dL_law_626 : decode cL_law 626 = .ok (.iaload, 1) := oq_46 bdL_law_618.2.2.2.2.2.2.2.2.1
theorem dL_law_627 : decode cL_law 627 = .ok (.invokevirtual 82, 3) := oq_182 bdL_law_618.2.2.2.2.2.2.2.2.2.1
theorem dL_law_630 : decode cL_law 630 = .ok (.pop, 1) := oq_87 bdL_law_618.2.2.2.2.2.2.2.2.2.2.1
theorem dL_law_631 : decode cL_law 631 = .ok (.aload_n 2, 1) := oq_44 bdL_law_618.2.2.2.2.2.2.2.2.2.2.2
theorem bdL_law_632 : (pre_b (List.drop 632 cL_law.data.toList) [42]) = true ∧ (pre_b (List.drop 633 cL_law.data.toList) [29]) = true ∧ (pre_b (List.drop 634 cL_law.data.toList) [4]) = true ∧ (pre_b (List.drop 635 cL_law.data.toList) [96]) = true ∧ (pre_b (List.drop 636 cL_law.data.toList) [46]) = true ∧ (pre_b (List.drop 637 cL_law.data.toList) [42]) = true ∧ (pre_b (List.drop 638 cL_law.data.toList) [29]) = true ∧ (pre_b (List.drop 639 cL_law.data.toList) [5]) = true ∧ (pre_b (List.drop 640 cL_law.data.toList) [96]) = true ∧ (pre_b (List.drop 641 cL_law.data.toList) [46]) = true ∧ (pre_b (List.drop 642 cL_law.data.toList) [182, 0, 85] && Nat.beq (0 * 256 + 85) 85) = true ∧ (pre_b (List.drop 645 cL_law.data.toList) [87]) = true := by decide +kernel
theorem dL_law_632 : decode cL_law 632 = .ok (.aload_n 0, 1) := oq_42 bdL_law_632.1
theorem dL_law_633 : decode cL_law 633 = .ok (.iload_n 3, 1) := oq_29 bdL_law_632.2.1
theorem dL_law_634 : decode cL_law 634 = .ok (.iconst 1, 1) := oq_4 bdL_law_632.2.2.1
theorem dL_law_635 : decode cL_law 635 = .ok (.iadd, 1) := oq_96 bdL_law_632.2.2.2.1
theorem dL_law_636 : decode cL_law 636 = .ok (.iaload, 1) := oq_46 bdL_law_632.2.2.2.2.1
theorem dL_law_637 : decode cL_law 637 = .ok (.aload_n 0, 1) := oq_42 bdL_law_632.2.2.2.2.2.1
theorem dL_law_638 : decode cL_law 638 = .ok (.iload_n 3, 1) := oq_29 bdL_law_632.2.2.2.2.2.2.1
theorem dL_law_639 : decode cL_law 639 = .ok (.iconst 2, 1) := oq_5 bdL_law_632.2.2.2.2.2.2.2.1
theorem dL_law_640 : decode cL_law 640 = .ok (.iadd, 1) := oq_96 bdL_law_632.2.2.2.2.2.2.2.2.1
theorem dL_law_641 : decode cL_law 641 = .ok (.iaload, 1) := oq_46 bdL_law_632.2.2.2.2.2.2.2.2.2.1
theorem dL_law_642 : decode cL_law 642 = .ok (.invokevirtual 85, 3) := oq_182 bdL_law_632.2.2.2.2.2.2.2.2.2.2.1
theorem dL_law_645 : decode cL_law 645 = .ok (.pop, 1) := oq_87 bdL_law_632.2.2.2.2.2.2.2.2.2.2.2

theorem bdL_law_646 : (pre_b (List.drop 646 cL_law.data.toList) [167, 2, 176] && decide (Reader.signed 16 (2 * 256 + 176) = 688)) = true ∧ (pre_b (List.drop 649 cL_law.data.toList) [43]) = true ∧ (pre_b (List.drop 650 cL_law.data.toList) [42]) = true ∧ (pre_b (List.drop 651 cL_law.data.toList) [29]) = true ∧ (pre_b (List.drop 652 cL_law.data.toList) [4]) = true ∧ (pre_b (List.drop 653 cL_law.data.toList) [96]) = true ∧ (pre_b (List.drop 654 cL_law.data.toList) [46]) = true ∧ (pre_b (List.drop 655 cL_law.data.toList) [182, 0, 86] && Nat.beq (0 * 256 + 86) 86) = true ∧ (pre_b (List.drop 658 cL_law.data.toList) [88]) = true ∧ (pre_b (List.drop 659 cL_law.data.toList) [44]) = true ∧ (pre_b (List.drop 660 cL_law.data.toList) [42]) = true ∧ (pre_b (List.drop 661 cL_law.data.toList) [29]) = true := by decide +kernel
theorem dL_law_646 : decode cL_law 646 = .ok (.goto 688, 3) := oq_167 bdL_law_646.1
theorem dL_law_649 : decode cL_law 649 = .ok (.aload_n 1, 1) := oq_43 bdL_law_646.2.1
theorem dL_law_650 : decode cL_law 650 = .ok (.aload_n 0, 1) := oq_42 bdL_law_646.2.2.1
theorem dL_law_651 : decode cL_law 651 = .ok (.iload_n 3, 1) := oq_29 bdL_law_646.2.2.2.1
theorem dL_law_652 : decode cL_law 652 = .ok (.iconst 1, 1) := oq_4 bdL_law_646.2.2.2.2.1
theorem dL_law_653 : decode cL_law 653 = .ok (.iadd, 1) := oq_96 bdL_law_646.2.2.2.2.2.1
theorem dL_law_654 : decode cL_law 654 = .ok (.iaload, 1) := oq_46 bdL_law_646.2.2.2.2.2.2.1
theorem dL_law_655 : decode cL_law 655 = .ok (.invokevirtual 86, 3) := oq_182 bdL_law_646.2.2.2.2.2.2.2.1
theorem dL_law_658 : decode cL_law 658 = .ok (.pop2, 1) := oq_88 bdL_law_646.2.2.2.2.2.2.2.2.1
theorem dL_law_659 : decode cL_law 659 = .ok (.aload_n 2, 1) := oq_44 bdL_law_646.2.2.2.2.2.2.2.2.2.1
theorem dL_law_660 : decode cL_law 660 = .ok (.aload_n 0, 1) := oq_42 bdL_law_646.2.2.2.2.2.2.2.2.2.2.1
theorem dL_law_661 : decode cL_law 661 = .ok (.iload_n 3, 1) := oq_29 bdL_law_646.2.2.2.2.2.2.2.2.2.2.2
theorem bdL_law_662 : (pre_b (List.drop 662 cL_law.data.toList) [4]) = true ∧ (pre_b (List.drop 663 cL_law.data.toList) [96]) = true ∧ (pre_b (List.drop 664 cL_law.data.toList) [46]) = true ∧ (pre_b (List.drop 665 cL_law.data.toList) [182, 0, 90] && Nat.beq (0 * 256 + 90) 90) = true ∧ (pre_b (List.drop 668 cL_law.data.toList) [88]) = true ∧ (pre_b (List.drop 669 cL_law.data.toList) [167, 2, 153] && decide (Reader.signed 16 (2 * 256 + 153) = 665)) = true ∧ (pre_b (List.drop 672 cL_law.data.toList) [43]) = true ∧ (pre_b (List.drop 673 cL_law.data.toList) [42]) = true ∧ (pre_b (List.drop 674 cL_law.data.toList) [29]) = true ∧ (pre_b (List.drop 675 cL_law.data.toList) [4]) = true ∧ (pre_b (List.drop 676 cL_law.data.toList) [96]) = true ∧ (pre_b (List.drop 677 cL_law.data.toList) [46]) = true := by decide +kernel
theorem dL_law_662 : decode cL_law 662 = .ok (.iconst 1, 1) := oq_4 bdL_law_662.1
theorem dL_law_663 : decode cL_law 663 = .ok (.iadd, 1) := oq_96 bdL_law_662.2.1
theorem dL_law_664 : decode cL_law 664 = .ok (.iaload, 1) := oq_46 bdL_law_662.2.2.1
theorem dL_law_665 : decode cL_law 665 = .ok (.invokevirtual 90, 3) := oq_182 bdL_law_662.2.2.2.1
theorem dL_law_668 : decode cL_law 668 = .ok (.pop2, 1) := oq_88 bdL_law_662.2.2.2.2.1
theorem dL_law_669 : decode cL_law 669 = .ok (.goto 665, 3) := oq_167 bdL_law_662.2.2.2.2.2.1
theorem dL_law_672 : decode cL_law 672 = .ok (.aload_n 1, 1) := oq_43 bdL_law_662.2.2.2.2.2.2.1
theorem dL_law_673 : decode cL_law 673 = .ok (.aload_n 0, 1) := oq_42 bdL_law_662.2.2.2.2.2.2.2.1
theorem dL_law_674 : decode cL_law 674 = .ok (.iload_n 3, 1) := oq_29 bdL_law_662.2.2.2.2.2.2.2.2.1
theorem dL_law_675 : decode cL_law 675 = .ok (.iconst 1, 1) := oq_4 bdL_law_662.2.2.2.2.2.2.2.2.2.1
theorem dL_law_676 : decode cL_law 676 = .ok (.iadd, 1) := oq_96 bdL_law_662.2.2.2.2.2.2.2.2.2.2.1
theorem dL_law_677 : decode cL_law 677 = .ok (.iaload, 1) := oq_46 bdL_law_662.2.2.2.2.2.2.2.2.2.2.2
theorem bdL_law_678 : (pre_b (List.drop 678 cL_law.data.toList) [42]) = true ∧ (pre_b (List.drop 679 cL_law.data.toList) [29]) = true ∧ (pre_b (List.drop 680 cL_law.data.toList) [5]) = true ∧ (pre_b (List.drop 681 cL_law.data.toList) [96]) = true ∧ (pre_b (List.drop 682 cL_law.data.toList) [46]) = true ∧ (pre_b (List.drop 683 cL_law.data.toList) [182, 0, 91] && Nat.beq (0 * 256 + 91) 91) = true ∧ (pre_b (List.drop 686 cL_law.data.toList) [87]) = true ∧ (pre_b (List.drop 687 cL_law.data.toList) [44]) = true ∧ (pre_b (List.drop 688 cL_law.data.toList) [42]) = true ∧ (pre_b (List.drop 689 cL_law.data.toList) [29]) = true ∧ (pre_b (List.drop 690 cL_law.data.toList) [4]) = true ∧ (pre_b (List.drop 691 cL_law.data.toList) [96]) = true := by decide +kernel
theorem dL_law_678 : decode cL_law 678 = .ok (.aload_n 0, 1) := oq_42 bdL_law_678.1
theorem dL_law_679 : decode cL_law 679 = .ok (.iload_n 3, 1) := oq_29 bdL_law_678.2.1
theorem dL_law_680 : decode cL_law 680 = .ok (.iconst 2, 1) := oq_5 bdL_law_678.2.2.1
theorem dL_law_681 : decode cL_law 681 = .ok (.iadd, 1) := oq_96 bdL_law_678.2.2.2.1
theorem dL_law_682 : decode cL_law 682 = .ok (.iaload, 1) := oq_46 bdL_law_678.2.2.2.2.1
theorem dL_law_683 : decode cL_law 683 = .ok (.invokevirtual 91, 3) := oq_182 bdL_law_678.2.2.2.2.2.1
theorem dL_law_686 : decode cL_law 686 = .ok (.pop, 1) := oq_87 bdL_law_678.2.2.2.2.2.2.1
theorem dL_law_687 : decode cL_law 687 = .ok (.aload_n 2, 1) := oq_44 bdL_law_678.2.2.2.2.2.2.2.1
theorem dL_law_688 : decode cL_law 688 = .ok (.aload_n 0, 1) := oq_42 bdL_law_678.2.2.2.2.2.2.2.2.1
theorem dL_law_689 : decode cL_law 689 = .ok (.iload_n 3, 1) := oq_29 bdL_law_678.2.2.2.2.2.2.2.2.2.1
theorem dL_law_690 : decode cL_law 690 = .ok (.iconst 1, 1) := oq_4 bdL_law_678.2.2.2.2.2.2.2.2.2.2.1
theorem dL_law_691 : decode cL_law 691 = .ok (.iadd, 1) := oq_96 bdL_law_678.2.2.2.2.2.2.2.2.2.2.2
theorem bdL_law_692 : (pre_b (List.drop 692 cL_law.data.toList) [46]) = true ∧ (pre_b (List.drop 693 cL_law.data.toList) [42]) = true ∧ (pre_b (List.drop 694 cL_law.data.toList) [29]) = true ∧ (pre_b (List.drop 695 cL_law.data.toList) [5]) = true ∧ (pre_b (List.drop 696 cL_law.data.toList) [96]) = true ∧ (pre_b (List.drop 697 cL_law.data.toList) [46]) = true ∧ (pre_b (List.drop 698 cL_law.data.toList) [182, 0, 94] && Nat.beq (0 * 256 + 94) 94) = true ∧ (pre_b (List.drop 701 cL_law.data.toList) [87]) = true ∧ (pre_b (List.drop 702 cL_law.data.toList) [167, 2, 120] && decide (Reader.signed 16 (2 * 256 + 120) = 632)) = true ∧ (pre_b (List.drop 705 cL_law.data.toList) [43]) = true ∧ (pre_b (List.drop 706 cL_law.data.toList) [42]) = true ∧ (pre_b (List.drop 707 cL_law.data.toList) [29]) = true := by decide +kernel
theorem dL_law_692 : decode cL_law 692 = .ok (.iaload, 1) := oq_46 bdL_law_692.1
theorem dL_law_693 : decode cL_law 693 = .ok (.aload_n 0, 1) := oq_42 bdL_law_692.2.1
theorem dL_law_694 : decode cL_law 694 = .ok (.iload_n 3, 1) := oq_29 bdL_law_692.2.2.1
theorem dL_law_695 : decode cL_law 695 = .ok (.iconst 2, 1) := oq_5 bdL_law_692.2.2.2.1
theorem dL_law_696 : decode cL_law 696 = .ok (.iadd, 1) := oq_96 bdL_law_692.2.2.2.2.1
theorem dL_law_697 : decode cL_law 697 = .ok (.iaload, 1) := oq_46 bdL_law_692.2.2.2.2.2.1
theorem dL_law_698 : decode cL_law 698 = .ok (.invokevirtual 94, 3) := oq_182 bdL_law_692.2.2.2.2.2.2.1
theorem dL_law_701 : decode cL_law 701 = .ok (.pop, 1) := oq_87 bdL_law_692.2.2.2.2.2.2.2.1
theorem dL_law_702 : decode cL_law 702 = .ok (.goto 632, 3) := oq_167 bdL_law_692.2.2.2.2.2.2.2.2.1
theorem dL_law_705 : decode cL_law 705 = .ok (.aload_n 1, 1) := oq_43 bdL_law_692.2.2.2.2.2.2.2.2.2.1
theorem dL_law_706 : decode cL_law 706 = .ok (.aload_n 0, 1) := oq_42 bdL_law_692.2.2.2.2.2.2.2.2.2.2.1
theorem dL_law_707 : decode cL_law 707 = .ok (.iload_n 3, 1) := oq_29 bdL_law_692.2.2.2.2.2.2.2.2.2.2.2
theorem bdL_law_708 : (pre_b (List.drop 708 cL_law.data.toList) [4]) = true ∧ (pre_b (List.drop 709 cL_law.data.toList) [96]) = true ∧ (pre_b (List.drop 710 cL_law.data.toList) [46]) = true ∧ (pre_b (List.drop 711 cL_law.data.toList) [42]) = true ∧ (pre_b (List.drop 712 cL_law.data.toList) [29]) = true ∧ (pre_b (List.drop 713 cL_law.data.toList) [5]) = true ∧ (pre_b (List.drop 714 cL_law.data.toList) [96]) = true ∧ (pre_b (List.drop 715 cL_law.data.toList) [46]) = true ∧ (pre_b (List.drop 716 cL_law.data.toList) [182, 0, 95] && Nat.beq (0 * 256 + 95) 95) = true ∧ (pre_b (List.drop 719 cL_law.data.toList) [87]) = true ∧ (pre_b (List.drop 720 cL_law.data.toList) [44]) = true ∧ (pre_b (List.drop 721 cL_law.data.toList) [42]) = true := by decide +kernel
theorem dL_law_708 : decode cL_law 708 = .ok (.iconst 1, 1) := oq_4 bdL_law_708.1
theorem dL_law_709 : decode cL_law 709 = .ok (.iadd, 1) := oq_96 bdL_law_708.2.1
theorem dL_law_710 : decode cL_law 710 = .ok (.iaload, 1) := oq_46 bdL_law_708.2.2.1
theorem dL_law_711 : decode cL_law 711 = .ok (.aload_n 0, 1) := oq_42 bdL_law_708.2.2.2.1
theorem dL_law_712 : decode cL_law 712 = .ok (.iload_n 3, 1) := oq_29 bdL_law_708.2.2.2.2.1
theorem dL_law_713 : decode cL_law 713 = .ok (.iconst 2, 1) := oq_5 bdL_law_708.2.2.2.2.2.1
theorem dL_law_714 : decode cL_law 714 = .ok (.iadd, 1) := oq_96 bdL_law_708.2.2.2.2.2.2.1
theorem dL_law_715 : decode cL_law 715 = .ok (.iaload, 1) := oq_46 bdL_law_708.2.2.2.2.2.2.2.1
theorem dL_law_716 : decode cL_law 716 = .ok (.invokevirtual 95, 3) := oq_182 bdL_law_708.2.2.2.2.2.2.2.2.1
theorem dL_law_719 : decode cL_law 719 = .ok (.pop, 1) := oq_87 bdL_law_708.2.2.2.2.2.2.2.2.2.1
theorem dL_law_720 : decode cL_law 720 = .ok (.aload_n 2, 1) := oq_44 bdL_law_708.2.2.2.2.2.2.2.2.2.2.1
theorem dL_law_721 : decode cL_law 721 = .ok (.aload_n 0, 1) := oq_42 bdL_law_708.2.2.2.2.2.2.2.2.2.2.2
theorem bdL_law_722 : (pre_b (List.drop 722 cL_law.data.toList) [29]) = true ∧ (pre_b (List.drop 723 cL_law.data.toList) [4]) = true ∧ (pre_b (List.drop 724 cL_law.data.toList) [96]) = true ∧ (pre_b (List.drop 725 cL_law.data.toList) [46]) = true ∧ (pre_b (List.drop 726 cL_law.data.toList) [42]) = true ∧ (pre_b (List.drop 727 cL_law.data.toList) [29]) = true ∧ (pre_b (List.drop 728 cL_law.data.toList) [5]) = true ∧ (pre_b (List.drop 729 cL_law.data.toList) [96]) = true ∧ (pre_b (List.drop 730 cL_law.data.toList) [46]) = true ∧ (pre_b (List.drop 731 cL_law.data.toList) [182, 0, 98] && Nat.beq (0 * 256 + 98) 98) = true ∧ (pre_b (List.drop 734 cL_law.data.toList) [87]) = true ∧ (pre_b (List.drop 735 cL_law.data.toList) [167, 2, 87] && decide (Reader.signed 16 (2 * 256 + 87) = 599)) = true := by decide +kernel
theorem dL_law_722 : decode cL_law 722 = .ok (.iload_n 3, 1) := oq_29 bdL_law_722.1
theorem dL_law_723 : decode cL_law 723 = .ok (.iconst 1, 1) := oq_4 bdL_law_722.2.1
theorem dL_law_724 : decode cL_law 724 = .ok (.iadd, 1) := oq_96 bdL_law_722.2.2.1
theorem dL_law_725 : decode cL_law 725 = .ok (.iaload, 1) := oq_46 bdL_law_722.2.2.2.1
theorem dL_law_726 : decode cL_law 726 = .ok (.aload_n 0, 1) := oq_42 bdL_law_722.2.2.2.2.1
theorem dL_law_727 : decode cL_law 727 = .ok (.iload_n 3, 1) := oq_29 bdL_law_722.2.2.2.2.2.1
theorem dL_law_728 : decode cL_law 728 = .ok (.iconst 2, 1) := oq_5 bdL_law_722.2.2.2.2.2.2.1
theorem dL_law_729 : decode cL_law 729 = .ok (.iadd, 1) := oq_96 bdL_law_722.2.2.2.2.2.2.2.1
theorem dL_law_730 : decode cL_law 730 = .ok (.iaload, 1) := oq_46 bdL_law_722.2.2.2.2.2.2.2.2.1
theorem dL_law_731 : decode cL_law 731 = .ok (.invokevirtual 98, 3) := oq_182 bdL_law_722.2.2.2.2.2.2.2.2.2.1
theorem dL_law_734 : decode cL_law 734 = .ok (.pop, 1) := oq_87 bdL_law_722.2.2.2.2.2.2.2.2.2.2.1
theorem dL_law_735 : decode cL_law 735 = .ok (.goto 599, 3) := oq_167 bdL_law_722.2.2.2.2.2.2.2.2.2.2.2
theorem bdL_law_738 : (pre_b (List.drop 738 cL_law.data.toList) [43]) = true ∧ (pre_b (List.drop 739 cL_law.data.toList) [42]) = true ∧ (pre_b (List.drop 740 cL_law.data.toList) [29]) = true ∧ (pre_b (List.drop 741 cL_law.data.toList) [4]) = true ∧ (pre_b (List.drop 742 cL_law.data.toList) [96]) = true ∧ (pre_b (List.drop 743 cL_law.data.toList) [46]) = true ∧ (pre_b (List.drop 744 cL_law.data.toList) [42]) = true ∧ (pre_b (List.drop 745 cL_law.data.toList) [29]) = true ∧ (pre_b (List.drop 746 cL_law.data.toList) [5]) = true ∧ (pre_b (List.drop 747 cL_law.data.toList) [96]) = true ∧ (pre_b (List.drop 748 cL_law.data.toList) [46]) = true ∧ (pre_b (List.drop 749 cL_law.data.toList) [42]) = true := by decide +kernel
theorem dL_law_738 : decode cL_law 738 = .ok (.aload_n 1, 1) := oq_43 bdL_law_738.1
theorem dL_law_739 : decode cL_law 739 = .ok (.aload_n 0, 1) := oq_42 bdL_law_738.2.1
theorem dL_law_740 : decode cL_law 740 = .ok (.iload_n 3, 1) := oq_29 bdL_law_738.2.2.1
theorem dL_law_741 : decode cL_law 741 = .ok (.iconst 1, 1) := oq_4 bdL_law_738.2.2.2.1
theorem dL_law_742 : decode cL_law 742 = .ok (.iadd, 1) := oq_96 bdL_law_738.2.2.2.2.1
theorem dL_law_743 : decode cL_law 743 = .ok (.iaload, 1) := oq_46 bdL_law_738.2.2.2.2.2.1
theorem dL_law_744 : decode cL_law 744 = .ok (.aload_n 0, 1) := oq_42 bdL_law_738.2.2.2.2.2.2.1
theorem dL_law_745 : decode cL_law 745 = .ok (.iload_n 3, 1) := oq_29 bdL_law_738.2.2.2.2.2.2.2.1
theorem dL_law_746 : decode cL_law 746 = .ok (.iconst 2, 1) := oq_5 bdL_law_738.2.2.2.2.2.2.2.2.1
theorem dL_law_747 : decode cL_law 747 = .ok (.iadd, 1) := oq_96 bdL_law_738.2.2.2.2.2.2.2.2.2.1
theorem dL_law_748 : decode cL_law 748 = .ok (.iaload, 1) := oq_46 bdL_law_738.2.2.2.2.2.2.2.2.2.2.1
theorem dL_law_749 : decode cL_law 749 = .ok (.aload_n 0, 1) := oq_42 bdL_law_738.2.2.2.2.2.2.2.2.2.2.2
theorem bdL_law_750 : (pre_b (List.drop 750 cL_law.data.toList) [29]) = true ∧ (pre_b (List.drop 751 cL_law.data.toList) [6]) = true ∧ (pre_b (List.drop 752 cL_law.data.toList) [96]) = true ∧ (pre_b (List.drop 753 cL_law.data.toList) [46]) = true ∧ (pre_b (List.drop 754 cL_law.data.toList) [182, 0, 99] && Nat.beq (0 * 256 + 99) 99) = true ∧ (pre_b (List.drop 757 cL_law.data.toList) [87]) = true ∧ (pre_b (List.drop 758 cL_law.data.toList) [44]) = true ∧ (pre_b (List.drop 759 cL_law.data.toList) [42]) = true ∧ (pre_b (List.drop 760 cL_law.data.toList) [29]) = true ∧ (pre_b (List.drop 761 cL_law.data.toList) [4]) = true ∧ (pre_b (List.drop 762 cL_law.data.toList) [96]) = true ∧ (pre_b (List.drop 763 cL_law.data.toList) [46]) = true := by decide +kernel
theorem dL_law_750 : decode cL_law 750 = .ok (.iload_n 3, 1) := oq_29 bdL_law_750.1
theorem dL_law_751 : decode cL_law 751 = .ok (.iconst 3, 1) := oq_6 bdL_law_750.2.1
theorem dL_law_752 : decode cL_law 752 = .ok (.iadd, 1) := oq_96 bdL_law_750.2.2.1
theorem dL_law_753 : decode cL_law 753 = .ok (.iaload, 1) := oq_46 bdL_law_750.2.2.2.1
theorem dL_law_754 : decode cL_law 754 = .ok (.invokevirtual 99, 3) := oq_182 bdL_law_750.2.2.2.2.1
theorem dL_law_757 : decode cL_law 757 = .ok (.pop, 1) := oq_87 bdL_law_750.2.2.2.2.2.1
theorem dL_law_758 : decode cL_law 758 = .ok (.aload_n 2, 1) := oq_44 bdL_law_750.2.2.2.2.2.2.1
theorem dL_law_759 : decode cL_law 759 = .ok (.aload_n 0, 1) := oq_42 bdL_law_750.2.2.2.2.2.2.2.1
theorem dL_law_760 : decode cL_law 760 = .ok (.iload_n 3, 1) := oq_29 bdL_law_750.2.2.2.2.2.2.2.2.1
theorem dL_law_761 : decode cL_law 761 = .ok (.iconst 1, 1) := oq_4 bdL_law_750.2.2.2.2.2.2.2.2.2.1
theorem dL_law_762 : decode cL_law 762 = .ok (.iadd, 1) := oq_96 bdL_law_750.2.2.2.2.2.2.2.2.2.2.1
theorem dL_law_763 : decode cL_law 763 = .ok (.iaload, 1) := oq_46 bdL_law_750.2.2.2.2.2.2.2.2.2.2.2
theorem bdL_law_764 : (pre_b (List.drop 764 cL_law.data.toList) [42]) = true ∧ (pre_b (List.drop 765 cL_law.data.toList) [29]) = true ∧ (pre_b (List.drop 766 cL_law.data.toList) [5]) = true ∧ (pre_b (List.drop 767 cL_law.data.toList) [96]) = true ∧ (pre_b (List.drop 768 cL_law.data.toList) [46]) = true ∧ (pre_b (List.drop 769 cL_law.data.toList) [42]) = true ∧ (pre_b (List.drop 770 cL_law.data.toList) [29]) = true ∧ (pre_b (List.drop 771 cL_law.data.toList) [6]) = true ∧ (pre_b (List.drop 772 cL_law.data.toList) [96]) = true ∧ (pre_b (List.drop 773 cL_law.data.toList) [46]) = true ∧ (pre_b (List.drop 774 cL_law.data.toList) [182, 0, 102] && Nat.beq (0 * 256 + 102) 102) = true ∧ (pre_b (List.drop 777 cL_law.data.toList) [87]) = true := by decide +kernel
theorem dL_law_764 : decode cL_law 764 = .ok (.aload_n 0, 1) := oq_42 bdL_law_764.1
theorem dL_law_765 : decode cL_law 765 = .ok (.iload_n 3, 1) := oq_29 bdL_law_764.2.1
theorem dL_law_766 : decode cL_law 766 = .ok (.iconst 2, 1) := oq_5 bdL_law_764.2.2.1
theorem dL_law_767 : decode cL_law 767 = .ok (.iadd, 1) := oq_96 bdL_law_764.2.2.2.1
theorem dL_law_768 : decode cL_law 768 = .ok (.iaload, 1) := oq_46 bdL_law_764.2.2.2.2.1
theorem dL_law_769 : decode cL_law 769 = .ok (.aload_n 0, 1) := oq_42 bdL_law_764.2.2.2.2.2.1
theorem dL_law_770 : decode cL_law 770 = .ok (.iload_n 3, 1) := oq_29 bdL_law_764.2.2.2.2.2.2.1
theorem dL_law_771 : decode cL_law 771 = .ok (.iconst 3, 1) := oq_6 bdL_law_764.2.2.2.2.2.2.2.1
theorem dL_law_772 : decode cL_law 772 = .ok (.iadd, 1) := oq_96 bdL_law_764.2.2.2.2.2.2.2.2.1
theorem dL_law_773 : decode cL_law 773 = .ok (.iaload, 1) := oq_46 bdL_law_764.2.2.2.2.2.2.2.2.2.1
theorem dL_law_774 : decode cL_law 774 = .ok (.invokevirtual 102, 3) := oq_182 bdL_law_764.2.2.2.2.2.2.2.2.2.2.1
theorem dL_law_777 : decode cL_law 777 = .ok (.pop, 1) := oq_87 bdL_law_764.2.2.2.2.2.2.2.2.2.2.2
theorem bdL_law_778 : (pre_b (List.drop 778 cL_law.data.toList) [167, 2, 44] && decide (Reader.signed 16 (2 * 256 + 44) = 556)) = true ∧ (pre_b (List.drop 781 cL_law.data.toList) [43]) = true ∧ (pre_b (List.drop 782 cL_law.data.toList) [42]) = true ∧ (pre_b (List.drop 783 cL_law.data.toList) [29]) = true ∧ (pre_b (List.drop 784 cL_law.data.toList) [4]) = true ∧ (pre_b (List.drop 785 cL_law.data.toList) [96]) = true ∧ (pre_b (List.drop 786 cL_law.data.toList) [46]) = true ∧ (pre_b (List.drop 787 cL_law.data.toList) [182, 0, 103] && Nat.beq (0 * 256 + 103) 103) = true ∧ (pre_b (List.drop 790 cL_law.data.toList) [88]) = true ∧ (pre_b (List.drop 791 cL_law.data.toList) [44]) = true ∧ (pre_b (List.drop 792 cL_law.data.toList) [42]) = true ∧ (pre_b (List.drop 793 cL_law.data.toList) [29]) = true := by decide +kernel
theorem dL_law_778 : decode cL_law 778 = .ok (.goto 556, 3) := oq_167 bdL_law_778.1
theorem dL_law_781 : decode cL_law 781 = .ok (.aload_n 1, 1) := oq_43 bdL_law_778.2.1
theorem dL_law_782 : decode cL_law 782 = .ok (.aload_n 0, 1) := oq_42 bdL_law_778.2.2.1
theorem dL_law_783 : decode cL_law 783 = .ok (.iload_n 3, 1) := oq_29 bdL_law_778.2.2.2.1
theorem dL_law_784 : decode cL_law 784 = .ok (.iconst 1, 1) := oq_4 bdL_law_778.2.2.2.2.1
theorem dL_law_785 : decode cL_law 785 = .ok (.iadd, 1) := oq_96 bdL_law_778.2.2.2.2.2.1
theorem dL_law_786 : decode cL_law 786 = .ok (.iaload, 1) := oq_46 bdL_law_778.2.2.2.2.2.2.1
theorem dL_law_787 : decode cL_law 787 = .ok (.invokevirtual 103, 3) := oq_182 bdL_law_778.2.2.2.2.2.2.2.1
theorem dL_law_790 : decode cL_law 790 = .ok (.pop2, 1) := oq_88 bdL_law_778.2.2.2.2.2.2.2.2.1
theorem dL_law_791 : decode cL_law 791 = .ok (.aload_n 2, 1) := oq_44 bdL_law_778.2.2.2.2.2.2.2.2.2.1
theorem dL_law_792 : decode cL_law 792 = .ok (.aload_n 0, 1) := oq_42 bdL_law_778.2.2.2.2.2.2.2.2.2.2.1
theorem dL_law_793 : decode cL_law 793 = .ok (.iload_n 3, 1) := oq_29 bdL_law_778.2.2.2.2.2.2.2.2.2.2.2
