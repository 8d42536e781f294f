def JJ (N : Int) (s1 : Tp) (s2 s3 : Bd) (s4 : Mo) (s5 : Pg) (s6 : Pa) (z7 : Nat → Option Bd) (m : Md) : Prop := cs_ok N s1 s2 s3 s4 s5 s6 z7 ∧ (∃ R W D, mb N R W D m ∧ (R ≤ 0 ∨ 0 < D)) ∧ RX s1 m ∧ RB s2 (m.2.2.1 0) ∧ RP s6 m ∧ RSh z7 m
theorem RX_k {t u : Tp} {s v : Md} {M : Int} (h : RX t s) (h2 : u.2 = t.2) (h0 : u.1 0 = v.1 5) (h5 : (v.1 5).toInt = M) (hM : 0 ≤ M ∧ M ≤ 400) (ht : v.2.2.2 2 = s.2.2.2 2) : RX u v := by
  obtain ⟨a1, a2, a3, a4, a5⟩ := h
  refine ⟨h0, ?_, by omega, by omega, ?_⟩
  · rw [h2, a2, ht]
  · rw [ht]
    exact a5
set_option maxHeartbeats 4000000 in
theorem pm_feed {s1 : Tp} {s2 s3 : Bd} {s4 : Mo} {s5 : Pg} {s6 : Pa} {z7 : Nat → Option Bd} {m : Md} {N : Int} {x1 : Int32} {x2 : Int32} {x3 : Int32} {x4 : Int32} {x5 : Int32} (hJ : JJ N s1 s2 s3 s4 s5 s6 z7 m) : ∃ (r6 r7 : Int32) (M : Int) (s1n : Tp) (mn : Md), (∀ Q : Int32 → Tp → Prop, Q r6 s1n → wp_X6_feed Q s1 x1 x2 x3 x4 x5) ∧ (∀ Q : Int32 → Md → Prop, Q r7 mn → wp_X7_feed Q m x1 x2 x3 x4 x5) ∧ JJ M s1n s2 s3 s4 s5 s6 z7 mn := by
  have hJ0 := hJ
  obtain ⟨⟨k1, ⟨R, W, k2⟩, ⟨R3, W3, k3⟩, k4, k5, k6, k7⟩, ⟨R7, W7, D7, kM, kD⟩, hx, hRB, hRP, hRS⟩ := hJ
  obtain ⟨o, a6, v6, _⟩ := dt_X6_feed s1 x1 x2 x3 x4 x5 (fun o => (∃ M, tz M o.2 ∧ ((o.1.toInt = M ∧ M = N + 20 ∧ N + 20 ≤ 400) ∨ (o.1.toInt = -1 ∧ M = N ∧ 400 < N + 20)))) (wq_X6_feed k1 (fun r u M b0 b1 => ⟨M, b0, b1⟩))
  obtain ⟨r6, s1n⟩ := o
  obtain ⟨M6, t6, l6⟩ := a6
  obtain ⟨o7, a7, v7, _⟩ := dt_X7_feed m x1 x2 x3 x4 x5 (fun o => ∃ M R W D9, mb M R W D9 o.2 ∧ (R ≤ 0 ∨ 0 < D9) ∧ ((o.1.toInt = M ∧ M = N + 20 ∧ N + 20 ≤ 400) ∨ (o.1.toInt = -1 ∧ M = N ∧ 400 < N + 20))) (wq_X7_feed kM (fun r u M b0 b1 => ⟨M, R7, W7, D7, b0, kD, b1⟩))
  obtain ⟨r7, mn⟩ := o7
  obtain ⟨M7, R8, W8, D8, m7, d7, l7⟩ := a7
  obtain ⟨rr, tt, vv, e6, e7, hxn⟩ := sm_feed (P6 := fun r u => (r, u) = (r6, s1n)) (P7 := fun r u => (r, u) = (r7, mn)) hx (v6 (fun x => x = (r6, s1n)) rfl) (v7 (fun x => x = (r7, mn)) rfl)
  have q6 := Prod.mk.inj e6
  have q7 := Prod.mk.inj e7
  rw [q6.2, q7.2] at hxn
  have m70 := m7
  have eM : M7 = M6 := by omega
  rw [eM] at m7
  obtain ⟨o2, o2e, hp⟩ := fp_X7_feed m x1 x2 x3 x4 x5 (fun x => x = (r7, mn)) (v7 (fun x => x = (r7, mn)) rfl)
  rw [o2e] at hp
  obtain ⟨o3, o3e, hw⟩ := fw_X7_feed m x1 x2 x3 x4 x5 (fun x => x = (r7, mn)) (v7 (fun x => x = (r7, mn)) rfl)
  rw [o3e] at hw
  have hp : mn.1 0 = m.1 0 ∧ mn.2.2.1 1 = m.2.2.1 1 ∧ mn.2.2.1 2 = m.2.2.1 2 ∧ mn.2.2.2 0 = m.2.2.2 0 := by simpa only [Prod.mk.injEq] using hp
  have hw : mn.2.2.1 0 = m.2.2.1 0 := hw
  have jB : RB s2 (mn.2.2.1 0) := by rw [hw]; exact hRB
  have jP := RP_k hRP hp.1 hp.2.1
  have jS : RSh z7 mn := RSh_k hRS hp.2.2.2 hp.2.2.1
  exact ⟨r6, r7, M6, s1n, mn, fun Q h => v6 (fun o => Q o.1 o.2) h, fun Q h => v7 (fun o => Q o.1 o.2) h, ⟨⟨t6, ⟨R, W, k2⟩, ⟨R3, W3, k3⟩, k4, k5, k6, k7⟩, ⟨R8, W8, D8, m7, d7⟩, hxn, jB, jP, jS⟩⟩
set_option maxHeartbeats 4000000 in
theorem pm_end {s1 : Tp} {s2 s3 : Bd} {s4 : Mo} {s5 : Pg} {s6 : Pa} {z7 : Nat → Option Bd} {m : Md} {N : Int} {x1 : Int32} (hJ : JJ N s1 s2 s3 s4 s5 s6 z7 m) : ∃ (r6 r7 : Int32) (M : Int) (s1n : Tp) (mn : Md), (∀ Q : Int32 → Tp → Prop, Q r6 s1n → wp_X6_end Q s1 x1) ∧ (∀ Q : Int32 → Md → Prop, Q r7 mn → wp_X7_end Q m x1) ∧ JJ M s1n s2 s3 s4 s5 s6 z7 mn := by
  have hJ0 := hJ
  obtain ⟨⟨k1, ⟨R, W, k2⟩, ⟨R3, W3, k3⟩, k4, k5, k6, k7⟩, ⟨R7, W7, D7, kM, kD⟩, hx, hRB, hRP, hRS⟩ := hJ
  obtain ⟨o, a6, v6, _⟩ := dt_X6_end s1 x1 (fun o => (∃ M, tz M o.2 ∧ ((o.1.toInt = x1.toInt ∧ M = x1.toInt ∧ 0 ≤ x1.toInt ∧ x1.toInt ≤ N) ∨ (o.1.toInt = -1 ∧ M = N ∧ (x1.toInt < 0 ∨ N < x1.toInt))))) (wq_X6_end k1 (fun r u M b0 b1 => ⟨M, b0, b1⟩))
  obtain ⟨r6, s1n⟩ := o
  obtain ⟨M6, t6, l6⟩ := a6
  obtain ⟨o7, a7, v7, _⟩ := dt_X7_end m x1 (fun o => ∃ M R W D9, mb M R W D9 o.2 ∧ (R ≤ 0 ∨ 0 < D9) ∧ ((o.1.toInt = x1.toInt ∧ M = x1.toInt ∧ 0 ≤ x1.toInt ∧ x1.toInt ≤ N) ∨ (o.1.toInt = -1 ∧ M = N ∧ (x1.toInt < 0 ∨ N < x1.toInt)))) (wq_X7_end kM (fun r u M b0 b1 => ⟨M, R7, W7, D7, b0, kD, b1⟩))
  obtain ⟨o8, o8e, ht⟩ := fx_X7_end m x1 (fun x => x = o7) (v7 (fun x => x = o7) rfl)
  rw [o8e] at ht
  obtain ⟨r7, mn⟩ := o7
  obtain ⟨M7, R8, W8, D8, m7, d7, l7⟩ := a7
  have ht : mn.2.2.2 2 = m.2.2.2 2 := ht
  obtain ⟨o9, o9e, hb⟩ := ft_X6_end s1 x1 (fun x => x = (r6, s1n)) (v6 (fun x => x = (r6, s1n)) rfl)
  rw [o9e] at hb
  have hb : s1n.2 = s1.2 := hb
  have m70 := m7
  have eM : M7 = M6 := by omega
  rw [eM] at m7
  have hxn : RX s1n mn := RX_k hx hb (Int32.toInt_inj.mp (t6.1.trans m7.1.symm)) m7.1 m7.2.2.1 ht
  obtain ⟨o2, o2e, hp⟩ := fp_X7_end m x1 (fun x => x = (r7, mn)) (v7 (fun x => x = (r7, mn)) rfl)
  rw [o2e] at hp
  obtain ⟨o3, o3e, hw⟩ := fw_X7_end m x1 (fun x => x = (r7, mn)) (v7 (fun x => x = (r7, mn)) rfl)
  rw [o3e] at hw
  have hp : mn.1 0 = m.1 0 ∧ mn.2.2.1 1 = m.2.2.1 1 ∧ mn.2.2.1 2 = m.2.2.1 2 ∧ mn.2.2.2 0 = m.2.2.2 0 := by simpa only [Prod.mk.injEq] using hp
  have hw : mn.2.2.1 0 = m.2.2.1 0 := hw
  have jB : RB s2 (mn.2.2.1 0) := by rw [hw]; exact hRB
  have jP := RP_k hRP hp.1 hp.2.1
  have jS : RSh z7 mn := RSh_k hRS hp.2.2.2 hp.2.2.1
  exact ⟨r6, r7, M6, s1n, mn, fun Q h => v6 (fun o => Q o.1 o.2) h, fun Q h => v7 (fun o => Q o.1 o.2) h, ⟨⟨t6, ⟨R, W, k2⟩, ⟨R3, W3, k3⟩, k4, k5, k6, k7⟩, ⟨R8, W8, D8, m7, d7⟩, hxn, jB, jP, jS⟩⟩
set_option maxHeartbeats 4000000 in
theorem pm_tell {s1 : Tp} {s2 s3 : Bd} {s4 : Mo} {s5 : Pg} {s6 : Pa} {z7 : Nat → Option Bd} {m : Md} {N : Int}  (hJ : JJ N s1 s2 s3 s4 s5 s6 z7 m) : ∃ (r6 r7 : Int32) (M : Int) (s1n : Tp) (s2n : Bd) (s3n : Bd) (s6n : Pa) (mn : Md), (∀ Q : Int32 → Tp → Bd → Bd → Pa → Prop, Q r6 s1n s2n s3n s6n → wp_X6_tell Q s1 s2 s3 s6) ∧ (∀ Q : Int32 → Md → Prop, Q r7 mn → wp_X7_tell Q m ) ∧ s6n.2 = s6.2 ∧ JJ M s1n s2n s3n s4 s5 s6n z7 mn := by
  have hJ0 := hJ
  obtain ⟨⟨k1, ⟨R, W, k2⟩, ⟨R3, W3, k3⟩, k4, k5, k6, k7⟩, ⟨R7, W7, D7, kM, kD⟩, hx, hRB, hRP, hRS⟩ := hJ
  obtain ⟨o, a6, v6, _⟩ := dt_X6_tell s1 s2 s3 s6 (fun o => (∃ M, tz M o.2.1 ∧ M = 0) ∧ bx o.2.2.1 ∧ bx o.2.2.2.1 ∧ (pa o.2.2.2.2 ∧ o.2.2.2.2.2 = s6.2)) (wq_X6_tell k1 k2 k3 k6 (fun r ua ub uc ud R4 W4 R5 W5 b0 b1 b2 b3 b4 => ⟨⟨0, b0, rfl⟩, ⟨R4, W4, b1⟩, ⟨R5, W5, b2⟩, ⟨b3, b4⟩⟩))
  obtain ⟨r6, s1n, s2n, s3n, s6n⟩ := o
  obtain ⟨⟨M6, t6, l6⟩, g1, g2, ⟨pa6, pe6⟩⟩ := a6
  obtain ⟨o7, a7, v7, _⟩ := dt_X7_tell m  (fun o => ∃ M R W D9, mb M R W D9 o.2 ∧ (R ≤ 0 ∨ 0 < D9) ∧ M = 0) (wq_X7_tell kM kD (fun r u R4 W4 D4 b0 b1 => ⟨0, R4, W4, D4, b0, b1, rfl⟩))
  obtain ⟨o8, o8e, ht⟩ := fx_X7_tell m  (fun x => x = o7) (v7 (fun x => x = o7) rfl)
  rw [o8e] at ht
  obtain ⟨r7, mn⟩ := o7
  obtain ⟨M7, R8, W8, D8, m7, d7, l7⟩ := a7
  have ht : mn.2.2.2 2 = m.2.2.2 2 := ht
  obtain ⟨o9, o9e, hb⟩ := ft_X6_tell s1 s2 s3 s6 (fun x => x = (r6, s1n, s2n, s3n, s6n)) (v6 (fun x => x = (r6, s1n, s2n, s3n, s6n)) rfl)
  rw [o9e] at hb
  have hb : s1n.2 = s1.2 := hb
  have m70 := m7
  have eM : M7 = M6 := by omega
  rw [eM] at m7
  have hxn : RX s1n mn := RX_k hx hb (Int32.toInt_inj.mp (t6.1.trans m7.1.symm)) m7.1 m7.2.2.1 ht
  have hq : ∀ r v, (fun r u => (r, u) = (r7, mn)) r v → ∃ N R W D, mb N R W D v := fun r v e => ⟨M7, R8, W8, D8, by rw [(Prod.mk.inj e).2]; exact m70⟩
  obtain ⟨ra, y_s1, y_s2, y_s3, y_s6, ym, e6, e7, aB, aP, aS⟩ := sm_tellF (P6 := fun r a_s1 a_s2 a_s3 a_s6 => (r, a_s1, a_s2, a_s3, a_s6) = (r6, s1n, s2n, s3n, s6n)) (P7 := fun r u => (r, u) = (r7, mn)) hx hRB hRP hRS kM kD hq (v6 (fun x => x = (r6, s1n, s2n, s3n, s6n)) rfl) (v7 (fun x => x = (r7, mn)) rfl)
  have f7 : ra = r7 ∧ ym = mn := by simpa only [Prod.mk.injEq] using e7
  have f6 : ra = r6 ∧ y_s1 = s1n ∧ y_s2 = s2n ∧ y_s3 = s3n ∧ y_s6 = s6n := by simpa only [Prod.mk.injEq] using e6
  try rw [f7.2] at aB
  try rw [f6.2.2.1] at aB
  try rw [f6.2.2.2.2] at aB
  try rw [f7.2] at aP
  try rw [f6.2.2.1] at aP
  try rw [f6.2.2.2.2] at aP
  try rw [f7.2] at aS
  try rw [f6.2.2.1] at aS
  try rw [f6.2.2.2.2] at aS
  have jB := aB
  have jP := aP
  have jS := aS
  exact ⟨r6, r7, M6, s1n, s2n, s3n, s6n, mn, fun Q h => v6 (fun o => Q o.1 o.2.1 o.2.2.1 o.2.2.2.1 o.2.2.2.2) h, fun Q h => v7 (fun o => Q o.1 o.2) h, pe6, ⟨⟨t6, g1, g2, k4, k5, pa6, k7⟩, ⟨R8, W8, D8, m7, d7⟩, hxn, jB, jP, jS⟩⟩
set_option maxHeartbeats 4000000 in
theorem pm_row {s1 : Tp} {s2 s3 : Bd} {s4 : Mo} {s5 : Pg} {s6 : Pa} {z7 : Nat → Option Bd} {m : Md} {N : Int} {x1 : Int32} (hJ : JJ N s1 s2 s3 s4 s5 s6 z7 m) : ∃ (r6 r7 : Int32) (M : Int) (s1n : Tp) (s2n : Bd) (s6n : Pa) (mn : Md), (∀ Q : Int32 → Tp → Bd → Pa → Prop, Q r6 s1n s2n s6n → wp_X6_row Q s1 s2 s6 x1) ∧ (∀ Q : Int32 → Md → Prop, Q r7 mn → wp_X7_row Q m x1) ∧ JJ M s1n s2n s3 s4 s5 s6n z7 mn := by
  have hJ0 := hJ
  obtain ⟨⟨k1, ⟨R, W, k2⟩, ⟨R3, W3, k3⟩, k4, k5, k6, k7⟩, ⟨R7, W7, D7, kM, kD⟩, hx, hRB, hRP, hRS⟩ := hJ
  obtain ⟨o, a6, v6, _⟩ := dt_X6_row s1 s2 s6 x1 (fun o => (∃ M, tz M o.2.1 ∧ M = 0) ∧ bx o.2.2.1 ∧ pa o.2.2.2) (wq_X6_row k1 k2 k6 (fun r ua ub uc b0 b1 b2 => ⟨⟨0, b0, rfl⟩, ⟨R, W, b1⟩, b2⟩))
  obtain ⟨r6, s1n, s2n, s6n⟩ := o
  obtain ⟨⟨M6, t6, l6⟩, g1, g2⟩ := a6
  obtain ⟨o7, a7, v7, _⟩ := dt_X7_row m x1 (fun o => ∃ M R W D9, mb M R W D9 o.2 ∧ (R ≤ 0 ∨ 0 < D9) ∧ M = 0) (wq_X7_row kM kD (fun r u b0 => ⟨0, R7, W7, D7, b0, kD, rfl⟩))
  obtain ⟨o8, o8e, ht⟩ := fx_X7_row m x1 (fun x => x = o7) (v7 (fun x => x = o7) rfl)
  rw [o8e] at ht
  obtain ⟨r7, mn⟩ := o7
  obtain ⟨M7, R8, W8, D8, m7, d7, l7⟩ := a7
  have ht : mn.2.2.2 2 = m.2.2.2 2 := ht
  obtain ⟨o9, o9e, hb⟩ := ft_X6_row s1 s2 s6 x1 (fun x => x = (r6, s1n, s2n, s6n)) (v6 (fun x => x = (r6, s1n, s2n, s6n)) rfl)
  rw [o9e] at hb
  have hb : s1n.2 = s1.2 := hb
  have m70 := m7
  have eM : M7 = M6 := by omega
  rw [eM] at m7
  have hxn : RX s1n mn := RX_k hx hb (Int32.toInt_inj.mp (t6.1.trans m7.1.symm)) m7.1 m7.2.2.1 ht
  obtain ⟨ra, y_s1, y_s2, y_s6, ym, e6, e7, ar⟩ := sm_row (P6 := fun r a_s1 a_s2 a_s6 => (r, a_s1, a_s2, a_s6) = (r6, s1n, s2n, s6n)) (P7 := fun r u => (r, u) = (r7, mn)) hx k6 hRP hRB kM kD (v6 (fun x => x = (r6, s1n, s2n, s6n)) rfl) (v7 (fun x => x = (r7, mn)) rfl)
  have f7 : ra = r7 ∧ ym = mn := by simpa only [Prod.mk.injEq] using e7
  have f6 : ra = r6 ∧ y_s1 = s1n ∧ y_s2 = s2n ∧ y_s6 = s6n := by simpa only [Prod.mk.injEq] using e6
  rw [f7.2, f6.2.2.1, f6.2.2.2] at ar
  have jB := ar.1
  have jP := ar.2.1
  have jS : RSh z7 mn := RSh_k hRS ar.2.2.1 ar.2.2.2
  exact ⟨r6, r7, M6, s1n, s2n, s6n, mn, fun Q h => v6 (fun o => Q o.1 o.2.1 o.2.2.1 o.2.2.2) h, fun Q h => v7 (fun o => Q o.1 o.2) h, ⟨⟨t6, g1, ⟨R3, W3, k3⟩, k4, k5, g2, k7⟩, ⟨R8, W8, D8, m7, d7⟩, hxn, jB, jP, jS⟩⟩
set_option maxHeartbeats 4000000 in
theorem pm_scroll {s1 : Tp} {s2 s3 : Bd} {s4 : Mo} {s5 : Pg} {s6 : Pa} {z7 : Nat → Option Bd} {m : Md} {N : Int}  (hJ : JJ N s1 s2 s3 s4 s5 s6 z7 m) : ∃ (r6 r7 : Int32) (M : Int) (s1n : Tp) (s2n : Bd) (s6n : Pa) (mn : Md), (∀ Q : Int32 → Tp → Bd → Pa → Prop, Q r6 s1n s2n s6n → wp_X6_scroll Q s1 s2 s6) ∧ (∀ Q : Int32 → Md → Prop, Q r7 mn → wp_X7_scroll Q m ) ∧ JJ M s1n s2n s3 s4 s5 s6n z7 mn ∧ r6 = r7 := by
  have hJ0 := hJ
  obtain ⟨⟨k1, ⟨R, W, k2⟩, ⟨R3, W3, k3⟩, k4, k5, k6, k7⟩, ⟨R7, W7, D7, kM, kD⟩, hx, hRB, hRP, hRS⟩ := hJ
  obtain ⟨o, a6, v6, _⟩ := dt_X6_scroll s1 s2 s6 (fun o => (∃ M, tz M o.2.1 ∧ M = 0) ∧ bx o.2.2.1 ∧ pa o.2.2.2) (wq_X6_scroll k1 k2 k6 (fun r ua ub uc b0 b1 b2 => ⟨⟨0, b0, rfl⟩, ⟨R, W, b1⟩, b2⟩))
  obtain ⟨r6, s1n, s2n, s6n⟩ := o
  obtain ⟨⟨M6, t6, l6⟩, g1, g2⟩ := a6
  obtain ⟨o7, a7, v7, _⟩ := dt_X7_scroll m  (fun o => ∃ M R W D9, mb M R W D9 o.2 ∧ (R ≤ 0 ∨ 0 < D9) ∧ M = 0) (wq_X7_scroll kM kD (fun r u b0 => ⟨0, R7, W7, D7, b0, kD, rfl⟩))
  obtain ⟨o8, o8e, ht⟩ := fx_X7_scroll m  (fun x => x = o7) (v7 (fun x => x = o7) rfl)
  rw [o8e] at ht
  obtain ⟨r7, mn⟩ := o7
  obtain ⟨M7, R8, W8, D8, m7, d7, l7⟩ := a7
  have ht : mn.2.2.2 2 = m.2.2.2 2 := ht
  obtain ⟨o9, o9e, hb⟩ := ft_X6_scroll s1 s2 s6 (fun x => x = (r6, s1n, s2n, s6n)) (v6 (fun x => x = (r6, s1n, s2n, s6n)) rfl)
  rw [o9e] at hb
  have hb : s1n.2 = s1.2 := hb
  have m70 := m7
  have eM : M7 = M6 := by omega
  rw [eM] at m7
  have hxn : RX s1n mn := RX_k hx hb (Int32.toInt_inj.mp (t6.1.trans m7.1.symm)) m7.1 m7.2.2.1 ht
  obtain ⟨ra, y_s1, y_s2, y_s6, ym, e6, e7, ar⟩ := sm_scroll (P6 := fun r a_s1 a_s2 a_s6 => (r, a_s1, a_s2, a_s6) = (r6, s1n, s2n, s6n)) (P7 := fun r u => (r, u) = (r7, mn)) hx k6 hRP hRB kM kD (v6 (fun x => x = (r6, s1n, s2n, s6n)) rfl) (v7 (fun x => x = (r7, mn)) rfl)
  have f7 : ra = r7 ∧ ym = mn := by simpa only [Prod.mk.injEq] using e7
  have f6 : ra = r6 ∧ y_s1 = s1n ∧ y_s2 = s2n ∧ y_s6 = s6n := by simpa only [Prod.mk.injEq] using e6
  rw [f7.2, f6.2.2.1, f6.2.2.2] at ar
  have jB := ar.1
  have jP := ar.2.1
  have jS : RSh z7 mn := RSh_k hRS ar.2.2.1 ar.2.2.2
  have er : r6 = r7 := f6.1.symm.trans f7.1
  exact ⟨r6, r7, M6, s1n, s2n, s6n, mn, fun Q h => v6 (fun o => Q o.1 o.2.1 o.2.2.1 o.2.2.2) h, fun Q h => v7 (fun o => Q o.1 o.2) h, ⟨⟨t6, g1, ⟨R3, W3, k3⟩, k4, k5, g2, k7⟩, ⟨R8, W8, D8, m7, d7⟩, hxn, jB, jP, jS⟩, er⟩
set_option maxHeartbeats 4000000 in
theorem pm_tick {s1 : Tp} {s2 s3 : Bd} {s4 : Mo} {s5 : Pg} {s6 : Pa} {z7 : Nat → Option Bd} {m : Md} {N : Int} {x1 : Int32} (hJ : JJ N s1 s2 s3 s4 s5 s6 z7 m) : ∃ (r6 r7 : Int32) (M : Int) (s2n : Bd) (s4n : Mo) (s6n : Pa) (mn : Md), (∀ Q : Int32 → Bd → Mo → Pa → Prop, Q r6 s2n s4n s6n → wp_X6_tick Q s2 s4 s6 x1) ∧ (∀ Q : Int32 → Md → Prop, Q r7 mn → wp_X7_tick Q m x1) ∧ JJ M s1 s2n s3 s4n s5 s6n z7 mn := by
  have hJ0 := hJ
  obtain ⟨⟨k1, ⟨R, W, k2⟩, ⟨R3, W3, k3⟩, k4, k5, k6, k7⟩, ⟨R7, W7, D7, kM, kD⟩, hx, hRB, hRP, hRS⟩ := hJ
  obtain ⟨o, a6, v6, _⟩ := dt_X6_tick s2 s4 s6 x1 (fun o => bx o.2.1 ∧ mo o.2.2.1 ∧ pa o.2.2.2) (wq_X6_tick k2 k4 k6 (fun r ua ub uc b0 b1 b2 => ⟨⟨R, W, b0⟩, b1, b2⟩))
  obtain ⟨r6, s2n, s4n, s6n⟩ := o
  obtain ⟨g0, g1, g2⟩ := a6
  obtain ⟨o7, a7, v7, _⟩ := dt_X7_tick m x1 (fun o => ∃ M R W D9, mb M R W D9 o.2 ∧ (R ≤ 0 ∨ 0 < D9) ∧ M = N) (wq_X7_tick kM kD (fun r u b0 => ⟨N, R7, W7, D7, b0, kD, rfl⟩))
  obtain ⟨o8, o8e, ht⟩ := fx_X7_tick m x1 (fun x => x = o7) (v7 (fun x => x = o7) rfl)
  rw [o8e] at ht
  obtain ⟨r7, mn⟩ := o7
  obtain ⟨M7, R8, W8, D8, m7, d7, l7⟩ := a7
  have ht : mn.2.2.2 2 = m.2.2.2 2 := ht
  have m70 := m7
  have eM : M7 = N := by omega
  rw [eM] at m7
  have hxn : RX s1 mn := RX_k hx rfl (Int32.toInt_inj.mp (k1.1.trans m7.1.symm)) m7.1 m7.2.2.1 ht
  obtain ⟨ra, y_s2, y_s4, y_s6, ym, e6, e7, ar⟩ := sm_tick (P6 := fun r a_s2 a_s4 a_s6 => (r, a_s2, a_s4, a_s6) = (r6, s2n, s4n, s6n)) (P7 := fun r u => (r, u) = (r7, mn)) k6 hRP hRB kM kD (v6 (fun x => x = (r6, s2n, s4n, s6n)) rfl) (v7 (fun x => x = (r7, mn)) rfl)
  have f7 : ra = r7 ∧ ym = mn := by simpa only [Prod.mk.injEq] using e7
  have f6 : ra = r6 ∧ y_s2 = s2n ∧ y_s4 = s4n ∧ y_s6 = s6n := by simpa only [Prod.mk.injEq] using e6
  rw [f7.2, f6.2.1, f6.2.2.2] at ar
  have jB := ar.1
  have jP := ar.2.1
  have jS : RSh z7 mn := RSh_k hRS ar.2.2.1 ar.2.2.2
  exact ⟨r6, r7, N, s2n, s4n, s6n, mn, fun Q h => v6 (fun o => Q o.1 o.2.1 o.2.2.1 o.2.2.2) h, fun Q h => v7 (fun o => Q o.1 o.2) h, ⟨⟨k1, g0, ⟨R3, W3, k3⟩, g1, k5, g2, k7⟩, ⟨R8, W8, D8, m7, d7⟩, hxn, jB, jP, jS⟩⟩
set_option maxHeartbeats 4000000 in
theorem pm_settle {s1 : Tp} {s2 s3 : Bd} {s4 : Mo} {s5 : Pg} {s6 : Pa} {z7 : Nat → Option Bd} {m : Md} {N : Int}  (hJ : JJ N s1 s2 s3 s4 s5 s6 z7 m) : ∃ (r6 r7 : Int32) (M : Int) (s2n : Bd) (s4n : Mo) (s6n : Pa) (mn : Md), (∀ Q : Int32 → Bd → Mo → Pa → Prop, Q r6 s2n s4n s6n → wp_X6_settle Q s2 s4 s6) ∧ (∀ Q : Int32 → Md → Prop, Q r7 mn → wp_X7_settle Q m ) ∧ JJ M s1 s2n s3 s4n s5 s6n z7 mn := by
  have hJ0 := hJ
  obtain ⟨⟨k1, ⟨R, W, k2⟩, ⟨R3, W3, k3⟩, k4, k5, k6, k7⟩, ⟨R7, W7, D7, kM, kD⟩, hx, hRB, hRP, hRS⟩ := hJ
  obtain ⟨o, a6, v6, _⟩ := dt_X6_settle s2 s4 s6 (fun o => bx o.2.1 ∧ mo o.2.2.1 ∧ pa o.2.2.2) (wq_X6_settle k2 k4 k6 (fun r ua ub uc b0 b1 b2 => ⟨⟨R, W, b0⟩, b1, b2⟩))
  obtain ⟨r6, s2n, s4n, s6n⟩ := o
  obtain ⟨g0, g1, g2⟩ := a6
  obtain ⟨o7, a7, v7, _⟩ := dt_X7_settle m  (fun o => ∃ M R W D9, mb M R W D9 o.2 ∧ (R ≤ 0 ∨ 0 < D9) ∧ M = N) (wq_X7_settle kM kD (fun r u b0 => ⟨N, R7, W7, D7, b0, kD, rfl⟩))
  obtain ⟨o8, o8e, ht⟩ := fx_X7_settle m  (fun x => x = o7) (v7 (fun x => x = o7) rfl)
  rw [o8e] at ht
  obtain ⟨r7, mn⟩ := o7
  obtain ⟨M7, R8, W8, D8, m7, d7, l7⟩ := a7
  have ht : mn.2.2.2 2 = m.2.2.2 2 := ht
  have m70 := m7
  have eM : M7 = N := by omega
  rw [eM] at m7
  have hxn : RX s1 mn := RX_k hx rfl (Int32.toInt_inj.mp (k1.1.trans m7.1.symm)) m7.1 m7.2.2.1 ht
  obtain ⟨ra, y_s2, y_s4, y_s6, ym, e6, e7, ar⟩ := sm_settle (P6 := fun r a_s2 a_s4 a_s6 => (r, a_s2, a_s4, a_s6) = (r6, s2n, s4n, s6n)) (P7 := fun r u => (r, u) = (r7, mn)) k6 hRP hRB kM kD (v6 (fun x => x = (r6, s2n, s4n, s6n)) rfl) (v7 (fun x => x = (r7, mn)) rfl)
  have f7 : ra = r7 ∧ ym = mn := by simpa only [Prod.mk.injEq] using e7
  have f6 : ra = r6 ∧ y_s2 = s2n ∧ y_s4 = s4n ∧ y_s6 = s6n := by simpa only [Prod.mk.injEq] using e6
  rw [f7.2, f6.2.1, f6.2.2.2] at ar
  have jB := ar.1
  have jP := ar.2.1
  have jS : RSh z7 mn := RSh_k hRS ar.2.2.1 ar.2.2.2
  exact ⟨r6, r7, N, s2n, s4n, s6n, mn, fun Q h => v6 (fun o => Q o.1 o.2.1 o.2.2.1 o.2.2.2) h, fun Q h => v7 (fun o => Q o.1 o.2) h, ⟨⟨k1, g0, ⟨R3, W3, k3⟩, g1, k5, g2, k7⟩, ⟨R8, W8, D8, m7, d7⟩, hxn, jB, jP, jS⟩⟩
set_option maxHeartbeats 4000000 in
theorem pm_lose {s1 : Tp} {s2 s3 : Bd} {s4 : Mo} {s5 : Pg} {s6 : Pa} {z7 : Nat → Option Bd} {m : Md} {N : Int} {x1 : Int32} {x2 : Int32} (hJ : JJ N s1 s2 s3 s4 s5 s6 z7 m) : ∃ (r6 r7 : Int32) (M : Int) (s2n : Bd) (s6n : Pa) (mn : Md), (∀ Q : Int32 → Bd → Pa → Prop, Q r6 s2n s6n → wp_X6_lose Q s2 s6 x1 x2) ∧ (∀ Q : Int32 → Md → Prop, Q r7 mn → wp_X7_lose Q m x1 x2) ∧ JJ M s1 s2n s3 s4 s5 s6n z7 mn := by
  have hJ0 := hJ
  obtain ⟨⟨k1, ⟨R, W, k2⟩, ⟨R3, W3, k3⟩, k4, k5, k6, k7⟩, ⟨R7, W7, D7, kM, kD⟩, hx, hRB, hRP, hRS⟩ := hJ
  obtain ⟨o, a6, v6, _⟩ := dt_X6_lose s2 s6 x1 x2 (fun o => bx o.2.1 ∧ pa o.2.2) (wq_X6_lose k2 k6 (fun r ua ub b0 b1 => ⟨⟨R, W, b0⟩, b1⟩))
  obtain ⟨r6, s2n, s6n⟩ := o
  obtain ⟨g0, g1⟩ := a6
  obtain ⟨o7, a7, v7, _⟩ := dt_X7_lose m x1 x2 (fun o => ∃ M R W D9, mb M R W D9 o.2 ∧ (R ≤ 0 ∨ 0 < D9) ∧ M = N) (wq_X7_lose kM kD (fun r u b0 => ⟨N, R7, W7, D7, b0, kD, rfl⟩))
  obtain ⟨o8, o8e, ht⟩ := fx_X7_lose m x1 x2 (fun x => x = o7) (v7 (fun x => x = o7) rfl)
  rw [o8e] at ht
  obtain ⟨r7, mn⟩ := o7
  obtain ⟨M7, R8, W8, D8, m7, d7, l7⟩ := a7
  have ht : mn.2.2.2 2 = m.2.2.2 2 := ht
  have m70 := m7
  have eM : M7 = N := by omega
  rw [eM] at m7
  have hxn : RX s1 mn := RX_k hx rfl (Int32.toInt_inj.mp (k1.1.trans m7.1.symm)) m7.1 m7.2.2.1 ht
  obtain ⟨ra, y_s2, y_s6, ym, e6, e7, ar⟩ := sm_lose (P6 := fun r a_s2 a_s6 => (r, a_s2, a_s6) = (r6, s2n, s6n)) (P7 := fun r u => (r, u) = (r7, mn)) k6 hRP hRB kM kD (v6 (fun x => x = (r6, s2n, s6n)) rfl) (v7 (fun x => x = (r7, mn)) rfl)
  have f7 : ra = r7 ∧ ym = mn := by simpa only [Prod.mk.injEq] using e7
  have f6 : ra = r6 ∧ y_s2 = s2n ∧ y_s6 = s6n := by simpa only [Prod.mk.injEq] using e6
  rw [f7.2, f6.2.1, f6.2.2] at ar
  have jB := ar.1
  have jP := ar.2.1
  have jS : RSh z7 mn := RSh_k hRS ar.2.2.1 ar.2.2.2
  exact ⟨r6, r7, N, s2n, s6n, mn, fun Q h => v6 (fun o => Q o.1 o.2.1 o.2.2) h, fun Q h => v7 (fun o => Q o.1 o.2) h, ⟨⟨k1, g0, ⟨R3, W3, k3⟩, k4, k5, g1, k7⟩, ⟨R8, W8, D8, m7, d7⟩, hxn, jB, jP, jS⟩⟩
set_option maxHeartbeats 4000000 in
theorem pm_wear {s1 : Tp} {s2 s3 : Bd} {s4 : Mo} {s5 : Pg} {s6 : Pa} {z7 : Nat → Option Bd} {m : Md} {N : Int} {x1 : Int32} {x2 : Int32} (hJ : JJ N s1 s2 s3 s4 s5 s6 z7 m) : ∃ (r6 r7 : Int32) (M : Int) (s2n : Bd) (s6n : Pa) (mn : Md), (∀ Q : Int32 → Bd → Pa → Prop, Q r6 s2n s6n → wp_X6_wear Q s2 s6 x1 x2) ∧ (∀ Q : Int32 → Md → Prop, Q r7 mn → wp_X7_wear Q m x1 x2) ∧ JJ M s1 s2n s3 s4 s5 s6n z7 mn := by
  have hJ0 := hJ
  obtain ⟨⟨k1, ⟨R, W, k2⟩, ⟨R3, W3, k3⟩, k4, k5, k6, k7⟩, ⟨R7, W7, D7, kM, kD⟩, hx, hRB, hRP, hRS⟩ := hJ
  obtain ⟨o, a6, v6, _⟩ := dt_X6_wear s2 s6 x1 x2 (fun o => bx o.2.1 ∧ pa o.2.2) (wq_X6_wear k2 k6 (fun r ua ub b0 b1 => ⟨⟨R, W, b0⟩, b1⟩))
  obtain ⟨r6, s2n, s6n⟩ := o
  obtain ⟨g0, g1⟩ := a6
  obtain ⟨o7, a7, v7, _⟩ := dt_X7_wear m x1 x2 (fun o => ∃ M R W D9, mb M R W D9 o.2 ∧ (R ≤ 0 ∨ 0 < D9) ∧ M = N) (wq_X7_wear kM kD (fun r u b0 => ⟨N, R7, W7, D7, b0, kD, rfl⟩))
  obtain ⟨o8, o8e, ht⟩ := fx_X7_wear m x1 x2 (fun x => x = o7) (v7 (fun x => x = o7) rfl)
  rw [o8e] at ht
  obtain ⟨r7, mn⟩ := o7
  obtain ⟨M7, R8, W8, D8, m7, d7, l7⟩ := a7
  have ht : mn.2.2.2 2 = m.2.2.2 2 := ht
  have m70 := m7
  have eM : M7 = N := by omega
  rw [eM] at m7
  have hxn : RX s1 mn := RX_k hx rfl (Int32.toInt_inj.mp (k1.1.trans m7.1.symm)) m7.1 m7.2.2.1 ht
  obtain ⟨ra, rb, y_s2, y_s6, ym, e6, e7, ar, cn⟩ := sm_wear (P6 := fun r a_s2 a_s6 => (r, a_s2, a_s6) = (r6, s2n, s6n)) (P7 := fun r u => (r, u) = (r7, mn)) k6 hRP hRB kM kD (v6 (fun x => x = (r6, s2n, s6n)) rfl) (v7 (fun x => x = (r7, mn)) rfl)
  have f7 : rb = r7 ∧ ym = mn := by simpa only [Prod.mk.injEq] using e7
  have f6 : ra = r6 ∧ y_s2 = s2n ∧ y_s6 = s6n := by simpa only [Prod.mk.injEq] using e6
  rw [f7.2, f6.2.1, f6.2.2] at ar
  have jB := ar.1
  have jP := ar.2.1
  have jS : RSh z7 mn := RSh_k hRS ar.2.2.1 ar.2.2.2
  exact ⟨r6, r7, N, s2n, s6n, mn, fun Q h => v6 (fun o => Q o.1 o.2.1 o.2.2) h, fun Q h => v7 (fun o => Q o.1 o.2) h, ⟨⟨k1, g0, ⟨R3, W3, k3⟩, k4, k5, g1, k7⟩, ⟨R8, W8, D8, m7, d7⟩, hxn, jB, jP, jS⟩⟩
set_option maxHeartbeats 4000000 in
theorem pm_mend {s1 : Tp} {s2 s3 : Bd} {s4 : Mo} {s5 : Pg} {s6 : Pa} {z7 : Nat → Option Bd} {m : Md} {N : Int} {x1 : Int32} {x2 : Int32} (hJ : JJ N s1 s2 s3 s4 s5 s6 z7 m) : ∃ (r6 r7 : Int32) (M : Int) (s2n : Bd) (s6n : Pa) (mn : Md), (∀ Q : Int32 → Bd → Pa → Prop, Q r6 s2n s6n → wp_X6_mend Q s2 s6 x1 x2) ∧ (∀ Q : Int32 → Md → Prop, Q r7 mn → wp_X7_mend Q m x1 x2) ∧ JJ M s1 s2n s3 s4 s5 s6n z7 mn := by
  have hJ0 := hJ
  obtain ⟨⟨k1, ⟨R, W, k2⟩, ⟨R3, W3, k3⟩, k4, k5, k6, k7⟩, ⟨R7, W7, D7, kM, kD⟩, hx, hRB, hRP, hRS⟩ := hJ
  obtain ⟨o, a6, v6, _⟩ := dt_X6_mend s2 s6 x1 x2 (fun o => bx o.2.1 ∧ pa o.2.2) (wq_X6_mend k2 k6 (fun r ua ub b0 b1 => ⟨⟨R, W, b0⟩, b1⟩))
  obtain ⟨r6, s2n, s6n⟩ := o
  obtain ⟨g0, g1⟩ := a6
  obtain ⟨o7, a7, v7, _⟩ := dt_X7_mend m x1 x2 (fun o => ∃ M R W D9, mb M R W D9 o.2 ∧ (R ≤ 0 ∨ 0 < D9) ∧ M = N) (wq_X7_mend kM kD (fun r u b0 => ⟨N, R7, W7, D7, b0, kD, rfl⟩))
  obtain ⟨o8, o8e, ht⟩ := fx_X7_mend m x1 x2 (fun x => x = o7) (v7 (fun x => x = o7) rfl)
  rw [o8e] at ht
  obtain ⟨r7, mn⟩ := o7
  obtain ⟨M7, R8, W8, D8, m7, d7, l7⟩ := a7
  have ht : mn.2.2.2 2 = m.2.2.2 2 := ht
  have m70 := m7
  have eM : M7 = N := by omega
  rw [eM] at m7
  have hxn : RX s1 mn := RX_k hx rfl (Int32.toInt_inj.mp (k1.1.trans m7.1.symm)) m7.1 m7.2.2.1 ht
  obtain ⟨ra, rb, y_s2, y_s6, ym, e6, e7, ar⟩ := sm_mend (P6 := fun r a_s2 a_s6 => (r, a_s2, a_s6) = (r6, s2n, s6n)) (P7 := fun r u => (r, u) = (r7, mn)) k6 hRP hRB kM kD (v6 (fun x => x = (r6, s2n, s6n)) rfl) (v7 (fun x => x = (r7, mn)) rfl)
  have f7 : rb = r7 ∧ ym = mn := by simpa only [Prod.mk.injEq] using e7
  have f6 : ra = r6 ∧ y_s2 = s2n ∧ y_s6 = s6n := by simpa only [Prod.mk.injEq] using e6
  rw [f7.2, f6.2.1, f6.2.2] at ar
  have jB := ar.1
  have jP := ar.2.1
  have jS : RSh z7 mn := RSh_k hRS ar.2.2.1 ar.2.2.2
  exact ⟨r6, r7, N, s2n, s6n, mn, fun Q h => v6 (fun o => Q o.1 o.2.1 o.2.2) h, fun Q h => v7 (fun o => Q o.1 o.2) h, ⟨⟨k1, g0, ⟨R3, W3, k3⟩, k4, k5, g1, k7⟩, ⟨R8, W8, D8, m7, d7⟩, hxn, jB, jP, jS⟩⟩
set_option maxHeartbeats 4000000 in
theorem pm_limit {s1 : Tp} {s2 s3 : Bd} {s4 : Mo} {s5 : Pg} {s6 : Pa} {z7 : Nat → Option Bd} {m : Md} {N : Int} {x1 : Int32} (hJ : JJ N s1 s2 s3 s4 s5 s6 z7 m) : ∃ (r6 r7 : Int32) (M : Int) (s2n : Bd) (s6n : Pa) (mn : Md), (∀ Q : Int32 → Bd → Pa → Prop, Q r6 s2n s6n → wp_X6_limit Q s2 s6 x1) ∧ (∀ Q : Int32 → Md → Prop, Q r7 mn → wp_X7_limit Q m x1) ∧ JJ M s1 s2n s3 s4 s5 s6n z7 mn := by
  have hJ0 := hJ
  obtain ⟨⟨k1, ⟨R, W, k2⟩, ⟨R3, W3, k3⟩, k4, k5, k6, k7⟩, ⟨R7, W7, D7, kM, kD⟩, hx, hRB, hRP, hRS⟩ := hJ
  obtain ⟨o, a6, v6, _⟩ := dt_X6_limit s2 s6 x1 (fun o => bx o.2.1 ∧ pa o.2.2) (wq_X6_limit k2 k6 (fun r ua ub b0 b1 => ⟨⟨R, W, b0⟩, b1⟩))
  obtain ⟨r6, s2n, s6n⟩ := o
  obtain ⟨g0, g1⟩ := a6
  obtain ⟨o7, a7, v7, _⟩ := dt_X7_limit m x1 (fun o => ∃ M R W D9, mb M R W D9 o.2 ∧ (R ≤ 0 ∨ 0 < D9) ∧ M = N) (wq_X7_limit kM kD (fun r u b0 => ⟨N, R7, W7, D7, b0, kD, rfl⟩))
  obtain ⟨o8, o8e, ht⟩ := fx_X7_limit m x1 (fun x => x = o7) (v7 (fun x => x = o7) rfl)
  rw [o8e] at ht
  obtain ⟨r7, mn⟩ := o7
  obtain ⟨M7, R8, W8, D8, m7, d7, l7⟩ := a7
  have ht : mn.2.2.2 2 = m.2.2.2 2 := ht
  have m70 := m7
  have eM : M7 = N := by omega
  rw [eM] at m7
  have hxn : RX s1 mn := RX_k hx rfl (Int32.toInt_inj.mp (k1.1.trans m7.1.symm)) m7.1 m7.2.2.1 ht
  obtain ⟨ra, y_s2, y_s6, ym, e6, e7, ar⟩ := sm_limit (P6 := fun r a_s2 a_s6 => (r, a_s2, a_s6) = (r6, s2n, s6n)) (P7 := fun r u => (r, u) = (r7, mn)) k6 hRP hRB kM kD (v6 (fun x => x = (r6, s2n, s6n)) rfl) (v7 (fun x => x = (r7, mn)) rfl)
  have f7 : ra = r7 ∧ ym = mn := by simpa only [Prod.mk.injEq] using e7
  have f6 : ra = r6 ∧ y_s2 = s2n ∧ y_s6 = s6n := by simpa only [Prod.mk.injEq] using e6
  rw [f7.2, f6.2.1, f6.2.2] at ar
  have jB := ar.1
  have jP := ar.2.1
  have jS : RSh z7 mn := RSh_k hRS ar.2.2.1 ar.2.2.2
  exact ⟨r6, r7, N, s2n, s6n, mn, fun Q h => v6 (fun o => Q o.1 o.2.1 o.2.2) h, fun Q h => v7 (fun o => Q o.1 o.2) h, ⟨⟨k1, g0, ⟨R3, W3, k3⟩, k4, k5, g1, k7⟩, ⟨R8, W8, D8, m7, d7⟩, hxn, jB, jP, jS⟩⟩
set_option maxHeartbeats 4000000 in
theorem pm_exchange {s1 : Tp} {s2 s3 : Bd} {s4 : Mo} {s5 : Pg} {s6 : Pa} {z7 : Nat → Option Bd} {m : Md} {N : Int} {x1 : Int32} {x2 : Int32} {x3 : Int32} (hJ : JJ N s1 s2 s3 s4 s5 s6 z7 m) : ∃ (r6 r7 : Int32) (M : Int) (s2n : Bd) (s6n : Pa) (mn : Md), (∀ Q : Int32 → Bd → Pa → Prop, Q r6 s2n s6n → wp_X6_exchange Q s2 s6 x1 x2 x3) ∧ (∀ Q : Int32 → Md → Prop, Q r7 mn → wp_X7_exchange Q m x1 x2 x3) ∧ JJ M s1 s2n s3 s4 s5 s6n z7 mn := by
  have hJ0 := hJ
  obtain ⟨⟨k1, ⟨R, W, k2⟩, ⟨R3, W3, k3⟩, k4, k5, k6, k7⟩, ⟨R7, W7, D7, kM, kD⟩, hx, hRB, hRP, hRS⟩ := hJ
  obtain ⟨o, a6, v6, _⟩ := dt_X6_exchange s2 s6 x1 x2 x3 (fun o => bx o.2.1 ∧ pa o.2.2) (wq_X6_exchange k2 k6 (fun r ua ub b0 b1 => ⟨⟨R, W, b0⟩, b1⟩))
  obtain ⟨r6, s2n, s6n⟩ := o
  obtain ⟨g0, g1⟩ := a6
  obtain ⟨o7, a7, v7, _⟩ := dt_X7_exchange m x1 x2 x3 (fun o => ∃ M R W D9, mb M R W D9 o.2 ∧ (R ≤ 0 ∨ 0 < D9) ∧ M = N) (wq_X7_exchange kM kD (fun r u b0 => ⟨N, R7, W7, D7, b0, kD, rfl⟩))
  obtain ⟨o8, o8e, ht⟩ := fx_X7_exchange m x1 x2 x3 (fun x => x = o7) (v7 (fun x => x = o7) rfl)
  rw [o8e] at ht
  obtain ⟨r7, mn⟩ := o7
  obtain ⟨M7, R8, W8, D8, m7, d7, l7⟩ := a7
  have ht : mn.2.2.2 2 = m.2.2.2 2 := ht
  have m70 := m7
  have eM : M7 = N := by omega
  rw [eM] at m7
  have hxn : RX s1 mn := RX_k hx rfl (Int32.toInt_inj.mp (k1.1.trans m7.1.symm)) m7.1 m7.2.2.1 ht
  obtain ⟨ra, y_s2, y_s6, ym, e6, e7, ar⟩ := sm_exchange (P6 := fun r a_s2 a_s6 => (r, a_s2, a_s6) = (r6, s2n, s6n)) (P7 := fun r u => (r, u) = (r7, mn)) k6 hRP hRB kM kD (v6 (fun x => x = (r6, s2n, s6n)) rfl) (v7 (fun x => x = (r7, mn)) rfl)
  have f7 : ra = r7 ∧ ym = mn := by simpa only [Prod.mk.injEq] using e7
  have f6 : ra = r6 ∧ y_s2 = s2n ∧ y_s6 = s6n := by simpa only [Prod.mk.injEq] using e6
  rw [f7.2, f6.2.1, f6.2.2] at ar
  have jB := ar.1
  have jP := ar.2.1
  have jS : RSh z7 mn := RSh_k hRS ar.2.2.1 ar.2.2.2
  exact ⟨r6, r7, N, s2n, s6n, mn, fun Q h => v6 (fun o => Q o.1 o.2.1 o.2.2) h, fun Q h => v7 (fun o => Q o.1 o.2) h, ⟨⟨k1, g0, ⟨R3, W3, k3⟩, k4, k5, g1, k7⟩, ⟨R8, W8, D8, m7, d7⟩, hxn, jB, jP, jS⟩⟩
set_option maxHeartbeats 4000000 in
theorem pm_run {s1 : Tp} {s2 s3 : Bd} {s4 : Mo} {s5 : Pg} {s6 : Pa} {z7 : Nat → Option Bd} {m : Md} {N : Int}  (hJ : JJ N s1 s2 s3 s4 s5 s6 z7 m) : ∃ (r6 r7 : Int32) (M : Int) (s1n : Tp) (s2n : Bd) (s4n : Mo) (s5n : Pg) (s6n : Pa) (mn : Md), (∀ Q : Int32 → Tp → Bd → Mo → Pg → Pa → Prop, Q r6 s1n s2n s4n s5n s6n → wp_X6_run Q s1 s2 s4 s5 s6) ∧ (∀ Q : Int32 → Md → Prop, Q r7 mn → wp_X7_run Q m ) ∧ JJ M s1n s2n s3 s4n s5n s6n z7 mn := by
  have hJ0 := hJ
  obtain ⟨⟨k1, ⟨R, W, k2⟩, ⟨R3, W3, k3⟩, k4, k5, k6, k7⟩, ⟨R7, W7, D7, kM, kD⟩, hx, hRB, hRP, hRS⟩ := hJ
  obtain ⟨o, a6, v6, _⟩ := dt_X6_run s1 s2 s4 s5 s6 (fun o => (∃ M, tz M o.2.1 ∧ M = 0) ∧ bx o.2.2.1 ∧ mo o.2.2.2.1 ∧ pz o.2.2.2.2.1 ∧ pa o.2.2.2.2.2) (wq_X6_run k1 k2 k4 k5 k6 (fun r ua ub uc ud ue b0 b1 b2 b3 b4 => ⟨⟨0, b0, rfl⟩, ⟨R, W, b1⟩, b2, b3, b4⟩))
  obtain ⟨r6, s1n, s2n, s4n, s5n, s6n⟩ := o
  obtain ⟨⟨M6, t6, l6⟩, g1, g2, g3, g4⟩ := a6
  obtain ⟨o7, a7, v7, _⟩ := dt_X7_run m  (fun o => ∃ M R W D9, mb M R W D9 o.2 ∧ (R ≤ 0 ∨ 0 < D9) ∧ M = 0) (wq_X7_run kM kD (fun r u b0 => ⟨0, R7, W7, D7, b0, kD, rfl⟩))
  obtain ⟨o8, o8e, ht⟩ := fx_X7_run m  (fun x => x = o7) (v7 (fun x => x = o7) rfl)
  rw [o8e] at ht
  obtain ⟨r7, mn⟩ := o7
  obtain ⟨M7, R8, W8, D8, m7, d7, l7⟩ := a7
  have ht : mn.2.2.2 2 = m.2.2.2 2 := ht
  obtain ⟨o9, o9e, hb⟩ := ft_X6_run s1 s2 s4 s5 s6 (fun x => x = (r6, s1n, s2n, s4n, s5n, s6n)) (v6 (fun x => x = (r6, s1n, s2n, s4n, s5n, s6n)) rfl)
  rw [o9e] at hb
  have hb : s1n.2 = s1.2 := hb
  have m70 := m7
  have eM : M7 = M6 := by omega
  rw [eM] at m7
  have hxn : RX s1n mn := RX_k hx hb (Int32.toInt_inj.mp (t6.1.trans m7.1.symm)) m7.1 m7.2.2.1 ht
  obtain ⟨ra, y_s1, y_s2, y_s4, y_s5, y_s6, ym, e6, e7, ar⟩ := sm_run (P6 := fun r a_s1 a_s2 a_s4 a_s5 a_s6 => (r, a_s1, a_s2, a_s4, a_s5, a_s6) = (r6, s1n, s2n, s4n, s5n, s6n)) (P7 := fun r u => (r, u) = (r7, mn)) k1 k2 k5 hx k6 hRP hRB kM kD (v6 (fun x => x = (r6, s1n, s2n, s4n, s5n, s6n)) rfl) (v7 (fun x => x = (r7, mn)) rfl)
  have f7 : ra = r7 ∧ ym = mn := by simpa only [Prod.mk.injEq] using e7
  have f6 : ra = r6 ∧ y_s1 = s1n ∧ y_s2 = s2n ∧ y_s4 = s4n ∧ y_s5 = s5n ∧ y_s6 = s6n := by simpa only [Prod.mk.injEq] using e6
  rw [f7.2, f6.2.2.1, f6.2.2.2.2.2] at ar
  have jB := ar.1
  have jP := ar.2.1
  have jS : RSh z7 mn := RSh_k hRS ar.2.2.1 ar.2.2.2
  exact ⟨r6, r7, M6, s1n, s2n, s4n, s5n, s6n, mn, fun Q h => v6 (fun o => Q o.1 o.2.1 o.2.2.1 o.2.2.2.1 o.2.2.2.2.1 o.2.2.2.2.2) h, fun Q h => v7 (fun o => Q o.1 o.2) h, ⟨⟨t6, g1, ⟨R3, W3, k3⟩, g2, g3, g4, k7⟩, ⟨R8, W8, D8, m7, d7⟩, hxn, jB, jP, jS⟩⟩
set_option maxHeartbeats 4000000 in
theorem pm_undo {s1 : Tp} {s2 s3 : Bd} {s4 : Mo} {s5 : Pg} {s6 : Pa} {z7 : Nat → Option Bd} {m : Md} {N : Int}  (hJ : JJ N s1 s2 s3 s4 s5 s6 z7 m) : ∃ (r6 r7 : Int32) (M : Int) (s2n : Bd) (s6n : Pa) (mn : Md), (∀ Q : Int32 → Bd → Pa → Prop, Q r6 s2n s6n → wp_X6_undo Q s2 s6) ∧ (∀ Q : Int32 → Md → Prop, Q r7 mn → wp_X7_undo Q m ) ∧ JJ M s1 s2n s3 s4 s5 s6n z7 mn := by
  have hJ0 := hJ
  obtain ⟨⟨k1, ⟨R, W, k2⟩, ⟨R3, W3, k3⟩, k4, k5, k6, k7⟩, ⟨R7, W7, D7, kM, kD⟩, hx, hRB, hRP, hRS⟩ := hJ
  obtain ⟨o, a6, v6, _⟩ := dt_X6_undo s2 s6 (fun o => bx o.2.1 ∧ pa o.2.2) (wq_X6_undo k2 k6 (fun r ua ub R4 W4 b0 b1 => ⟨⟨R4, W4, b0⟩, b1⟩))
  obtain ⟨r6, s2n, s6n⟩ := o
  obtain ⟨g0, g1⟩ := a6
  obtain ⟨o7, a7, v7, _⟩ := dt_X7_undo m  (fun o => ∃ M R W D9, mb M R W D9 o.2 ∧ (R ≤ 0 ∨ 0 < D9) ∧ M = N) (wq_X7_undo kM kD (fun r u R4 W4 D4 b0 b1 => ⟨N, R4, W4, D4, b0, b1, rfl⟩))
  obtain ⟨o8, o8e, ht⟩ := fx_X7_undo m  (fun x => x = o7) (v7 (fun x => x = o7) rfl)
  rw [o8e] at ht
  obtain ⟨r7, mn⟩ := o7
  obtain ⟨M7, R8, W8, D8, m7, d7, l7⟩ := a7
  have ht : mn.2.2.2 2 = m.2.2.2 2 := ht
  have m70 := m7
  have eM : M7 = N := by omega
  rw [eM] at m7
  have hxn : RX s1 mn := RX_k hx rfl (Int32.toInt_inj.mp (k1.1.trans m7.1.symm)) m7.1 m7.2.2.1 ht
  obtain ⟨ra, y_s2, y_s6, ym, e6, e7, aB, aP, aK, aS⟩ := sm_undo (P6 := fun r a_s2 a_s6 => (r, a_s2, a_s6) = (r6, s2n, s6n)) (P7 := fun r u => (r, u) = (r7, mn)) k6 hRP hRB kM (v6 (fun x => x = (r6, s2n, s6n)) rfl) (v7 (fun x => x = (r7, mn)) rfl)
  have f7 : ra = r7 ∧ ym = mn := by simpa only [Prod.mk.injEq] using e7
  have f6 : ra = r6 ∧ y_s2 = s2n ∧ y_s6 = s6n := by simpa only [Prod.mk.injEq] using e6
  try rw [f7.2] at aB
  try rw [f6.2.1] at aB
  try rw [f6.2.2] at aB
  try rw [f7.2] at aP
  try rw [f6.2.1] at aP
  try rw [f6.2.2] at aP
  try rw [f7.2] at aK
  try rw [f6.2.1] at aK
  try rw [f6.2.2] at aK
  try rw [f7.2] at aS
  try rw [f6.2.1] at aS
  try rw [f6.2.2] at aS
  have jB := aB
  have jP := aP
  have jS := RSh_k hRS (by rw [aK]) aS
  exact ⟨r6, r7, N, s2n, s6n, mn, fun Q h => v6 (fun o => Q o.1 o.2.1 o.2.2) h, fun Q h => v7 (fun o => Q o.1 o.2) h, ⟨⟨k1, g0, ⟨R3, W3, k3⟩, k4, k5, g1, k7⟩, ⟨R8, W8, D8, m7, d7⟩, hxn, jB, jP, jS⟩⟩
set_option maxHeartbeats 4000000 in
theorem pm_keep {s1 : Tp} {s2 s3 : Bd} {s4 : Mo} {s5 : Pg} {s6 : Pa} {z7 : Nat → Option Bd} {m : Md} {N : Int} {x1 : Int32} (hJ : JJ N s1 s2 s3 s4 s5 s6 z7 m) : ∃ (r6 r7 : Int32) (M : Int) (z7n : Nat → Option Bd) (mn : Md), (∀ Q : Int32 → (Nat → Option Bd) → Prop, Q r6 z7n → wp_X6_keep Q s2 z7 x1) ∧ (∀ Q : Int32 → Md → Prop, Q r7 mn → wp_X7_keep Q m x1) ∧ JJ M s1 s2 s3 s4 s5 s6 z7n mn := by
  have hJ0 := hJ
  obtain ⟨⟨k1, ⟨R, W, k2⟩, ⟨R3, W3, k3⟩, k4, k5, k6, k7⟩, ⟨R7, W7, D7, kM, kD⟩, hx, hRB, hRP, hRS⟩ := hJ
  obtain ⟨o, a6, v6, _⟩ := dt_X6_keep s2 z7 x1 (fun o => (∀ k, ob (o.2 k))) (wq_X6_keep k2 k7 (fun r u b0 => b0))
  obtain ⟨r6, z7n⟩ := o
  have g0 := a6
  obtain ⟨o7, a7, v7, _⟩ := dt_X7_keep m x1 (fun o => ∃ M R W D9, mb M R W D9 o.2 ∧ (R ≤ 0 ∨ 0 < D9) ∧ M = N) (wq_X7_keep kM kD (fun r u b0 => ⟨N, R7, W7, D7, b0, kD, rfl⟩))
  obtain ⟨o8, o8e, ht⟩ := fx_X7_keep m x1 (fun x => x = o7) (v7 (fun x => x = o7) rfl)
  rw [o8e] at ht
  obtain ⟨r7, mn⟩ := o7
  obtain ⟨M7, R8, W8, D8, m7, d7, l7⟩ := a7
  have ht : mn.2.2.2 2 = m.2.2.2 2 := ht
  have m70 := m7
  have eM : M7 = N := by omega
  rw [eM] at m7
  have hxn : RX s1 mn := RX_k hx rfl (Int32.toInt_inj.mp (k1.1.trans m7.1.symm)) m7.1 m7.2.2.1 ht
  obtain ⟨ra, y_z7, ym, e6, e7, aS, aN, aB, aP⟩ := sm_keep (P6 := fun r a_z7 => (r, a_z7) = (r6, z7n)) (P7 := fun r u => (r, u) = (r7, mn)) hRS hRB kM (v6 (fun x => x = (r6, z7n)) rfl) (v7 (fun x => x = (r7, mn)) rfl)
  have f7 : ra = r7 ∧ ym = mn := by simpa only [Prod.mk.injEq] using e7
  have f6 : ra = r6 ∧ y_z7 = z7n := by simpa only [Prod.mk.injEq] using e6
  try rw [f7.2] at aS
  try rw [f6.2] at aS
  try rw [f7.2] at aN
  try rw [f6.2] at aN
  try rw [f7.2] at aB
  try rw [f6.2] at aB
  try rw [f7.2] at aP
  try rw [f6.2] at aP
  have jB : RB s2 (mn.2.2.1 0) := by rw [aB]; exact hRB
  have jP := RP_k hRP aN aP
  have jS := aS
  exact ⟨r6, r7, N, z7n, mn, fun Q h => v6 (fun o => Q o.1 o.2) h, fun Q h => v7 (fun o => Q o.1 o.2) h, ⟨⟨k1, ⟨R, W, k2⟩, ⟨R3, W3, k3⟩, k4, k5, k6, g0⟩, ⟨R8, W8, D8, m7, d7⟩, hxn, jB, jP, jS⟩⟩
set_option maxHeartbeats 4000000 in
theorem pm_back {s1 : Tp} {s2 s3 : Bd} {s4 : Mo} {s5 : Pg} {s6 : Pa} {z7 : Nat → Option Bd} {m : Md} {N : Int} {x1 : Int32} (hJ : JJ N s1 s2 s3 s4 s5 s6 z7 m) : ∃ (r6 r7 : Int32) (M : Int) (s2n : Bd) (s6n : Pa) (z7n : Nat → Option Bd) (mn : Md), (∀ Q : Int32 → Bd → Pa → (Nat → Option Bd) → Prop, Q r6 s2n s6n z7n → wp_X6_back Q s2 s6 z7 x1) ∧ (∀ Q : Int32 → Md → Prop, Q r7 mn → wp_X7_back Q m x1) ∧ s6n.2 = s6.2 ∧ JJ M s1 s2n s3 s4 s5 s6n z7n mn := by
  have hJ0 := hJ
  obtain ⟨⟨k1, ⟨R, W, k2⟩, ⟨R3, W3, k3⟩, k4, k5, k6, k7⟩, ⟨R7, W7, D7, kM, kD⟩, hx, hRB, hRP, hRS⟩ := hJ
  obtain ⟨o, a6, v6, _⟩ := dt_X6_back s2 s6 z7 x1 (fun o => bx o.2.1 ∧ (pa o.2.2.1 ∧ o.2.2.1.2 = s6.2) ∧ (∀ k, ob (o.2.2.2 k))) (wq_X6_back k2 k6 k7 (fun r ua ub uc R4 W4 b0 b1 b2 b3 => ⟨⟨R4, W4, b0⟩, ⟨b1, b3⟩, b2⟩))
  obtain ⟨r6, s2n, s6n, z7n⟩ := o
  obtain ⟨g0, ⟨pa6, pe6⟩, g2⟩ := a6
  obtain ⟨o7, a7, v7, _⟩ := dt_X7_back m x1 (fun o => ∃ M R W D9, mb M R W D9 o.2 ∧ (R ≤ 0 ∨ 0 < D9) ∧ M = N) (wq_X7_back kM kD (fun r u R4 W4 D4 b0 b1 => ⟨N, R4, W4, D4, b0, b1, rfl⟩))
  obtain ⟨o8, o8e, ht⟩ := fx_X7_back m x1 (fun x => x = o7) (v7 (fun x => x = o7) rfl)
  rw [o8e] at ht
  obtain ⟨r7, mn⟩ := o7
  obtain ⟨M7, R8, W8, D8, m7, d7, l7⟩ := a7
  have ht : mn.2.2.2 2 = m.2.2.2 2 := ht
  have m70 := m7
  have eM : M7 = N := by omega
  rw [eM] at m7
  have hxn : RX s1 mn := RX_k hx rfl (Int32.toInt_inj.mp (k1.1.trans m7.1.symm)) m7.1 m7.2.2.1 ht
  obtain ⟨ra, y_s2, y_s6, y_z7, ym, e6, e7, aB, aP, aS⟩ := sm_back (P6 := fun r a_s2 a_s6 a_z7 => (r, a_s2, a_s6, a_z7) = (r6, s2n, s6n, z7n)) (P7 := fun r u => (r, u) = (r7, mn)) hRP hRS hRB kM (v6 (fun x => x = (r6, s2n, s6n, z7n)) rfl) (v7 (fun x => x = (r7, mn)) rfl)
  have f7 : ra = r7 ∧ ym = mn := by simpa only [Prod.mk.injEq] using e7
  have f6 : ra = r6 ∧ y_s2 = s2n ∧ y_s6 = s6n ∧ y_z7 = z7n := by simpa only [Prod.mk.injEq] using e6
  try rw [f7.2] at aB
  try rw [f6.2.1] at aB
  try rw [f6.2.2.1] at aB
  try rw [f6.2.2.2] at aB
  try rw [f7.2] at aP
  try rw [f6.2.1] at aP
  try rw [f6.2.2.1] at aP
  try rw [f6.2.2.2] at aP
  try rw [f7.2] at aS
  try rw [f6.2.1] at aS
  try rw [f6.2.2.1] at aS
  try rw [f6.2.2.2] at aS
  have jB := aB
  have jP := aP
  have jS := aS
  exact ⟨r6, r7, N, s2n, s6n, z7n, mn, fun Q h => v6 (fun o => Q o.1 o.2.1 o.2.2.1 o.2.2.2) h, fun Q h => v7 (fun o => Q o.1 o.2) h, pe6, ⟨⟨k1, g0, ⟨R3, W3, k3⟩, k4, k5, pa6, g2⟩, ⟨R8, W8, D8, m7, d7⟩, hxn, jB, jP, jS⟩⟩
set_option maxHeartbeats 4000000 in
theorem pm_cell {s1 : Tp} {s2 s3 : Bd} {s4 : Mo} {s5 : Pg} {s6 : Pa} {z7 : Nat → Option Bd} {m : Md} {N : Int} {x1 : Int32} {x2 : Int32} (hJ : JJ N s1 s2 s3 s4 s5 s6 z7 m) : ∃ (r6 r7 : Int32) (M : Int) (mn : Md), (∀ Q : Int32 → Prop, Q r6  → wp_X6_cell Q s2 x1 x2) ∧ (∀ Q : Int32 → Prop, Q r7 → wp_X7_cell Q m x1 x2) ∧ mn = m ∧ JJ M s1 s2 s3 s4 s5 s6 z7 mn := by
  have hJ0 := hJ
  obtain ⟨⟨k1, ⟨R, W, k2⟩, ⟨R3, W3, k3⟩, k4, k5, k6, k7⟩, ⟨R7, W7, D7, kM, kD⟩, hx, hRB, hRP, hRS⟩ := hJ
  obtain ⟨r6, _, v6, _⟩ := dt_X6_cell s2 x1 x2 (fun _ => True) (wq_X6_cell k2 (fun _ => trivial))
  obtain ⟨r7, _, v7, _⟩ := dt_X7_cell m x1 x2 (fun _ => True) (wq_X7_cell kM kD (fun _ => trivial))
  exact ⟨r6, r7, N, m, fun Q h => v6 (fun o => Q o) h, fun Q h => v7 (fun o => Q o) h, rfl, ⟨⟨k1, ⟨R, W, k2⟩, ⟨R3, W3, k3⟩, k4, k5, k6, k7⟩, ⟨R7, W7, D7, kM, kD⟩, hx, hRB, hRP, hRS⟩⟩
set_option maxHeartbeats 4000000 in
theorem pm_worn {s1 : Tp} {s2 s3 : Bd} {s4 : Mo} {s5 : Pg} {s6 : Pa} {z7 : Nat → Option Bd} {m : Md} {N : Int} {x1 : Int32} (hJ : JJ N s1 s2 s3 s4 s5 s6 z7 m) : ∃ (r6 r7 : Int64) (M : Int) (mn : Md), (∀ Q : Int64 → Prop, Q r6  → wp_X6_worn Q s2 x1) ∧ (∀ Q : Int64 → Prop, Q r7 → wp_X7_worn Q m x1) ∧ mn = m ∧ JJ M s1 s2 s3 s4 s5 s6 z7 mn := by
  have hJ0 := hJ
  obtain ⟨⟨k1, ⟨R, W, k2⟩, ⟨R3, W3, k3⟩, k4, k5, k6, k7⟩, ⟨R7, W7, D7, kM, kD⟩, hx, hRB, hRP, hRS⟩ := hJ
  obtain ⟨r6, _, v6, _⟩ := dt_X6_worn s2 x1 (fun _ => True) (wq_X6_worn k2 (fun _ => trivial))
  obtain ⟨r7, _, v7, _⟩ := dt_X7_worn m x1 (fun _ => True) (wq_X7_worn kM (fun _ => trivial))
  exact ⟨r6, r7, N, m, fun Q h => v6 (fun o => Q o) h, fun Q h => v7 (fun o => Q o) h, rfl, ⟨⟨k1, ⟨R, W, k2⟩, ⟨R3, W3, k3⟩, k4, k5, k6, k7⟩, ⟨R7, W7, D7, kM, kD⟩, hx, hRB, hRP, hRS⟩⟩
set_option maxHeartbeats 4000000 in
theorem pm_drum {s1 : Tp} {s2 s3 : Bd} {s4 : Mo} {s5 : Pg} {s6 : Pa} {z7 : Nat → Option Bd} {m : Md} {N : Int} {x1 : Int32} {x2 : Int32} (hJ : JJ N s1 s2 s3 s4 s5 s6 z7 m) : ∃ (r6 r7 : Int32) (M : Int) (mn : Md), (∀ Q : Int32 → Prop, Q r6  → wp_X6_drum Q s2 x1 x2) ∧ (∀ Q : Int32 → Prop, Q r7 → wp_X7_drum Q m x1 x2) ∧ mn = m ∧ JJ M s1 s2 s3 s4 s5 s6 z7 mn := by
  have hJ0 := hJ
  obtain ⟨⟨k1, ⟨R, W, k2⟩, ⟨R3, W3, k3⟩, k4, k5, k6, k7⟩, ⟨R7, W7, D7, kM, kD⟩, hx, hRB, hRP, hRS⟩ := hJ
  obtain ⟨r6, _, v6, _⟩ := dt_X6_drum s2 x1 x2 (fun _ => True) (wq_X6_drum k2 (fun _ => trivial))
  obtain ⟨r7, _, v7, _⟩ := dt_X7_drum m x1 x2 (fun _ => True) (wq_X7_drum kM (fun _ => trivial))
  exact ⟨r6, r7, N, m, fun Q h => v6 (fun o => Q o) h, fun Q h => v7 (fun o => Q o) h, rfl, ⟨⟨k1, ⟨R, W, k2⟩, ⟨R3, W3, k3⟩, k4, k5, k6, k7⟩, ⟨R7, W7, D7, kM, kD⟩, hx, hRB, hRP, hRS⟩⟩
set_option maxHeartbeats 4000000 in
theorem pm_sign {s1 : Tp} {s2 s3 : Bd} {s4 : Mo} {s5 : Pg} {s6 : Pa} {z7 : Nat → Option Bd} {m : Md} {N : Int} {x1 : Int32} {x2 : Int32} (hJ : JJ N s1 s2 s3 s4 s5 s6 z7 m) : ∃ (r6 r7 : Int32) (M : Int) (mn : Md), (∀ Q : Int32 → Prop, Q r6  → wp_X6_sign Q s2 x1 x2) ∧ (∀ Q : Int32 → Prop, Q r7 → wp_X7_sign Q m x1 x2) ∧ mn = m ∧ JJ M s1 s2 s3 s4 s5 s6 z7 mn := by
  have hJ0 := hJ
  obtain ⟨⟨k1, ⟨R, W, k2⟩, ⟨R3, W3, k3⟩, k4, k5, k6, k7⟩, ⟨R7, W7, D7, kM, kD⟩, hx, hRB, hRP, hRS⟩ := hJ
  obtain ⟨r6, _, v6, _⟩ := dt_X6_sign s2 x1 x2 (fun _ => True) (wq_X6_sign k2 (fun _ => trivial))
  obtain ⟨r7, _, v7, _⟩ := dt_X7_sign m x1 x2 (fun _ => True) (wq_X7_sign kM (fun _ => trivial))
  exact ⟨r6, r7, N, m, fun Q h => v6 (fun o => Q o) h, fun Q h => v7 (fun o => Q o) h, rfl, ⟨⟨k1, ⟨R, W, k2⟩, ⟨R3, W3, k3⟩, k4, k5, k6, k7⟩, ⟨R7, W7, D7, kM, kD⟩, hx, hRB, hRP, hRS⟩⟩
set_option maxHeartbeats 4000000 in
theorem pm_at {s1 : Tp} {s2 s3 : Bd} {s4 : Mo} {s5 : Pg} {s6 : Pa} {z7 : Nat → Option Bd} {m : Md} {N : Int} {x1 : Int32} {x2 : Int32} {x3 : Int32} (hJ : JJ N s1 s2 s3 s4 s5 s6 z7 m) : ∃ (r6 r7 : Int32) (M : Int) (mn : Md), (∀ Q : Int32 → Prop, Q r6  → wp_X6_at Q s2 x1 x2 x3) ∧ (∀ Q : Int32 → Prop, Q r7 → wp_X7_at Q m x1 x2 x3) ∧ mn = m ∧ JJ M s1 s2 s3 s4 s5 s6 z7 mn := by
  have hJ0 := hJ
  obtain ⟨⟨k1, ⟨R, W, k2⟩, ⟨R3, W3, k3⟩, k4, k5, k6, k7⟩, ⟨R7, W7, D7, kM, kD⟩, hx, hRB, hRP, hRS⟩ := hJ
  obtain ⟨r6, _, v6, _⟩ := dt_X6_at s2 x1 x2 x3 (fun _ => True) (wq_X6_at k2 (fun _ => trivial))
  obtain ⟨r7, _, v7, _⟩ := dt_X7_at m x1 x2 x3 (fun _ => True) (wq_X7_at kM kD (fun _ => trivial))
  exact ⟨r6, r7, N, m, fun Q h => v6 (fun o => Q o) h, fun Q h => v7 (fun o => Q o) h, rfl, ⟨⟨k1, ⟨R, W, k2⟩, ⟨R3, W3, k3⟩, k4, k5, k6, k7⟩, ⟨R7, W7, D7, kM, kD⟩, hx, hRB, hRP, hRS⟩⟩
set_option maxHeartbeats 4000000 in
theorem pm_which {s1 : Tp} {s2 s3 : Bd} {s4 : Mo} {s5 : Pg} {s6 : Pa} {z7 : Nat → Option Bd} {m : Md} {N : Int} {x1 : Int32} (hJ : JJ N s1 s2 s3 s4 s5 s6 z7 m) : ∃ (r6 r7 : Int64) (M : Int) (s4n : Mo) (mn : Md), (∀ Q : Int64 → Mo → Prop, Q r6 s4n → wp_X6_which Q s2 s4 x1) ∧ (∀ Q : Int64 → Md → Prop, Q r7 mn → wp_X7_which Q m x1) ∧ JJ M s1 s2 s3 s4n s5 s6 z7 mn := by
  have hJ0 := hJ
  obtain ⟨⟨k1, ⟨R, W, k2⟩, ⟨R3, W3, k3⟩, k4, k5, k6, k7⟩, ⟨R7, W7, D7, kM, kD⟩, hx, hRB, hRP, hRS⟩ := hJ
  obtain ⟨o, a6, v6, _⟩ := dt_X6_which s2 s4 x1 (fun o => mo o.2) (wq_X6_which k2 k4 (fun r u b0 => b0))
  obtain ⟨r6, s4n⟩ := o
  have g0 := a6
  obtain ⟨o7, a7, v7, _⟩ := dt_X7_which m x1 (fun o => ∃ M R W D9, mb M R W D9 o.2 ∧ (R ≤ 0 ∨ 0 < D9) ∧ M = N) (wq_X7_which kM kD (fun r u b0 => ⟨N, R7, W7, D7, b0, kD, rfl⟩))
  obtain ⟨o8, o8e, ht⟩ := fx_X7_which m x1 (fun x => x = o7) (v7 (fun x => x = o7) rfl)
  rw [o8e] at ht
  obtain ⟨r7, mn⟩ := o7
  obtain ⟨M7, R8, W8, D8, m7, d7, l7⟩ := a7
  have ht : mn.2.2.2 2 = m.2.2.2 2 := ht
  have m70 := m7
  have eM : M7 = N := by omega
  rw [eM] at m7
  have hxn : RX s1 mn := RX_k hx rfl (Int32.toInt_inj.mp (k1.1.trans m7.1.symm)) m7.1 m7.2.2.1 ht
  obtain ⟨o2, o2e, hp⟩ := fp_X7_which m x1 (fun x => x = (r7, mn)) (v7 (fun x => x = (r7, mn)) rfl)
  rw [o2e] at hp
  obtain ⟨o3, o3e, hw⟩ := fw_X7_which m x1 (fun x => x = (r7, mn)) (v7 (fun x => x = (r7, mn)) rfl)
  rw [o3e] at hw
  have hp : mn.1 0 = m.1 0 ∧ mn.2.2.1 1 = m.2.2.1 1 ∧ mn.2.2.1 2 = m.2.2.1 2 ∧ mn.2.2.2 0 = m.2.2.2 0 := by simpa only [Prod.mk.injEq] using hp
  have hw : mn.2.2.1 0 = m.2.2.1 0 := hw
  have jB : RB s2 (mn.2.2.1 0) := by rw [hw]; exact hRB
  have jP := RP_k hRP hp.1 hp.2.1
  have jS : RSh z7 mn := RSh_k hRS hp.2.2.2 hp.2.2.1
  exact ⟨r6, r7, N, s4n, mn, fun Q h => v6 (fun o => Q o.1 o.2) h, fun Q h => v7 (fun o => Q o.1 o.2) h, ⟨⟨k1, ⟨R, W, k2⟩, ⟨R3, W3, k3⟩, g0, k5, k6, k7⟩, ⟨R8, W8, D8, m7, d7⟩, hxn, jB, jP, jS⟩⟩
set_option maxHeartbeats 4000000 in
theorem pm_left {s1 : Tp} {s2 s3 : Bd} {s4 : Mo} {s5 : Pg} {s6 : Pa} {z7 : Nat → Option Bd} {m : Md} {N : Int} {x1 : Int32} (hJ : JJ N s1 s2 s3 s4 s5 s6 z7 m) : ∃ (r6 r7 : Int32) (M : Int) (mn : Md), (∀ Q : Int32 → Prop, Q r6  → wp_X6_left Q s2 x1) ∧ (∀ Q : Int32 → Prop, Q r7 → wp_X7_left Q m x1) ∧ mn = m ∧ JJ M s1 s2 s3 s4 s5 s6 z7 mn := by
  have hJ0 := hJ
  obtain ⟨⟨k1, ⟨R, W, k2⟩, ⟨R3, W3, k3⟩, k4, k5, k6, k7⟩, ⟨R7, W7, D7, kM, kD⟩, hx, hRB, hRP, hRS⟩ := hJ
  obtain ⟨r6, _, v6, _⟩ := dt_X6_left s2 x1 (fun _ => True) (wq_X6_left k2 (fun _ => trivial))
  obtain ⟨r7, _, v7, _⟩ := dt_X7_left m x1 (fun _ => True) (wq_X7_left kM (fun _ => trivial))
  exact ⟨r6, r7, N, m, fun Q h => v6 (fun o => Q o) h, fun Q h => v7 (fun o => Q o) h, rfl, ⟨⟨k1, ⟨R, W, k2⟩, ⟨R3, W3, k3⟩, k4, k5, k6, k7⟩, ⟨R7, W7, D7, kM, kD⟩, hx, hRB, hRP, hRS⟩⟩
set_option maxHeartbeats 4000000 in
theorem pm_when {s1 : Tp} {s2 s3 : Bd} {s4 : Mo} {s5 : Pg} {s6 : Pa} {z7 : Nat → Option Bd} {m : Md} {N : Int} {x1 : Int32} (hJ : JJ N s1 s2 s3 s4 s5 s6 z7 m) : ∃ (r6 r7 : Int32) (M : Int) (s3n : Bd) (s4n : Mo) (mn : Md), (∀ Q : Int32 → Bd → Mo → Prop, Q r6 s3n s4n → wp_X6_when Q s2 s3 s4 x1) ∧ (∀ Q : Int32 → Md → Prop, Q r7 mn → wp_X7_when Q m x1) ∧ JJ M s1 s2 s3n s4n s5 s6 z7 mn := by
  have hJ0 := hJ
  obtain ⟨⟨k1, ⟨R, W, k2⟩, ⟨R3, W3, k3⟩, k4, k5, k6, k7⟩, ⟨R7, W7, D7, kM, kD⟩, hx, hRB, hRP, hRS⟩ := hJ
  obtain ⟨o, a6, v6, _⟩ := dt_X6_when s2 s3 s4 x1 (fun o => bx o.2.1 ∧ mo o.2.2) (wq_X6_when k2 k3 k4 (fun r ua ub R4 W4 b0 b1 => ⟨⟨R4, W4, b0⟩, b1⟩))
  obtain ⟨r6, s3n, s4n⟩ := o
  obtain ⟨g0, g1⟩ := a6
  obtain ⟨o7, a7, v7, _⟩ := dt_X7_when m x1 (fun o => ∃ M R W D9, mb M R W D9 o.2 ∧ (R ≤ 0 ∨ 0 < D9) ∧ M = N) (wq_X7_when kM kD (fun r u R4 W4 D4 b0 b1 => ⟨N, R4, W4, D4, b0, b1, rfl⟩))
  obtain ⟨o8, o8e, ht⟩ := fx_X7_when m x1 (fun x => x = o7) (v7 (fun x => x = o7) rfl)
  rw [o8e] at ht
  obtain ⟨r7, mn⟩ := o7
  obtain ⟨M7, R8, W8, D8, m7, d7, l7⟩ := a7
  have ht : mn.2.2.2 2 = m.2.2.2 2 := ht
  have m70 := m7
  have eM : M7 = N := by omega
  rw [eM] at m7
  have hxn : RX s1 mn := RX_k hx rfl (Int32.toInt_inj.mp (k1.1.trans m7.1.symm)) m7.1 m7.2.2.1 ht
  obtain ⟨ra, y_s3, y_s4, ym, e6, e7, nb⟩ := sm_when (P6 := fun r a_s3 a_s4 => (r, a_s3, a_s4) = (r6, s3n, s4n)) (P7 := fun r u => (r, u) = (r7, mn)) hRB kM kD (v6 (fun x => x = (r6, s3n, s4n)) rfl) (v7 (fun x => x = (r7, mn)) rfl)
  have f7 : ra = r7 ∧ ym = mn := by simpa only [Prod.mk.injEq] using e7
  have f6 : ra = r6 ∧ y_s3 = s3n ∧ y_s4 = s4n := by simpa only [Prod.mk.injEq] using e6
  rw [f7.2] at nb
  have jB : RB s2 (mn.2.2.1 0) := RB_cg kM.2.2.2.2.1 (fun i hi => nb.1 i (by omega)) hRB
  have jP0 : RP s6 mn := RP_k hRP nb.2.1 nb.2.2.1
  have jS : RSh z7 mn := RSh_k hRS nb.2.2.2.2 nb.2.2.2.1
  have jP := jP0
  exact ⟨r6, r7, N, s3n, s4n, mn, fun Q h => v6 (fun o => Q o.1 o.2.1 o.2.2) h, fun Q h => v7 (fun o => Q o.1 o.2) h, ⟨⟨k1, ⟨R, W, k2⟩, g0, g1, k5, k6, k7⟩, ⟨R8, W8, D8, m7, d7⟩, hxn, jB, jP, jS⟩⟩
set_option maxHeartbeats 4000000 in
theorem pm_loudest {s1 : Tp} {s2 s3 : Bd} {s4 : Mo} {s5 : Pg} {s6 : Pa} {z7 : Nat → Option Bd} {m : Md} {N : Int} {x1 : Int32} (hJ : JJ N s1 s2 s3 s4 s5 s6 z7 m) : ∃ (r6 r7 : Int32) (M : Int) (s3n : Bd) (s4n : Mo) (mn : Md), (∀ Q : Int32 → Bd → Mo → Prop, Q r6 s3n s4n → wp_X6_loudest Q s2 s3 s4 x1) ∧ (∀ Q : Int32 → Md → Prop, Q r7 mn → wp_X7_loudest Q m x1) ∧ JJ M s1 s2 s3n s4n s5 s6 z7 mn := by
  have hJ0 := hJ
  obtain ⟨⟨k1, ⟨R, W, k2⟩, ⟨R3, W3, k3⟩, k4, k5, k6, k7⟩, ⟨R7, W7, D7, kM, kD⟩, hx, hRB, hRP, hRS⟩ := hJ
  obtain ⟨o, a6, v6, _⟩ := dt_X6_loudest s2 s3 s4 x1 (fun o => bx o.2.1 ∧ mo o.2.2) (wq_X6_loudest k2 k3 k4 (fun r ua ub R4 W4 b0 b1 => ⟨⟨R4, W4, b0⟩, b1⟩))
  obtain ⟨r6, s3n, s4n⟩ := o
  obtain ⟨g0, g1⟩ := a6
  obtain ⟨o7, a7, v7, _⟩ := dt_X7_loudest m x1 (fun o => ∃ M R W D9, mb M R W D9 o.2 ∧ (R ≤ 0 ∨ 0 < D9) ∧ M = N) (wq_X7_loudest kM kD (fun r u R4 W4 D4 b0 b1 => ⟨N, R4, W4, D4, b0, b1, rfl⟩))
  obtain ⟨o8, o8e, ht⟩ := fx_X7_loudest m x1 (fun x => x = o7) (v7 (fun x => x = o7) rfl)
  rw [o8e] at ht
  obtain ⟨r7, mn⟩ := o7
  obtain ⟨M7, R8, W8, D8, m7, d7, l7⟩ := a7
  have ht : mn.2.2.2 2 = m.2.2.2 2 := ht
  have m70 := m7
  have eM : M7 = N := by omega
  rw [eM] at m7
  have hxn : RX s1 mn := RX_k hx rfl (Int32.toInt_inj.mp (k1.1.trans m7.1.symm)) m7.1 m7.2.2.1 ht
  obtain ⟨ra, y_s3, y_s4, ym, e6, e7, nb⟩ := sm_loudest (P6 := fun r a_s3 a_s4 => (r, a_s3, a_s4) = (r6, s3n, s4n)) (P7 := fun r u => (r, u) = (r7, mn)) hRB kM kD (v6 (fun x => x = (r6, s3n, s4n)) rfl) (v7 (fun x => x = (r7, mn)) rfl)
  have f7 : ra = r7 ∧ ym = mn := by simpa only [Prod.mk.injEq] using e7
  have f6 : ra = r6 ∧ y_s3 = s3n ∧ y_s4 = s4n := by simpa only [Prod.mk.injEq] using e6
  rw [f7.2] at nb
  have jB : RB s2 (mn.2.2.1 0) := RB_cg kM.2.2.2.2.1 (fun i hi => nb.1 i (by omega)) hRB
  have jP0 : RP s6 mn := RP_k hRP nb.2.1 nb.2.2.1
  have jS : RSh z7 mn := RSh_k hRS nb.2.2.2.2 nb.2.2.2.1
  have jP := jP0
  exact ⟨r6, r7, N, s3n, s4n, mn, fun Q h => v6 (fun o => Q o.1 o.2.1 o.2.2) h, fun Q h => v7 (fun o => Q o.1 o.2) h, ⟨⟨k1, ⟨R, W, k2⟩, g0, g1, k5, k6, k7⟩, ⟨R8, W8, D8, m7, d7⟩, hxn, jB, jP, jS⟩⟩
set_option maxHeartbeats 4000000 in
theorem pm_total {s1 : Tp} {s2 s3 : Bd} {s4 : Mo} {s5 : Pg} {s6 : Pa} {z7 : Nat → Option Bd} {m : Md} {N : Int} {x1 : Int32} (hJ : JJ N s1 s2 s3 s4 s5 s6 z7 m) : ∃ (r6 r7 : Int32) (M : Int) (mn : Md), (∀ Q : Int32 → Prop, Q r6  → wp_X6_total Q s2 x1) ∧ (∀ Q : Int32 → Prop, Q r7 → wp_X7_total Q m x1) ∧ mn = m ∧ JJ M s1 s2 s3 s4 s5 s6 z7 mn := by
  have hJ0 := hJ
  obtain ⟨⟨k1, ⟨R, W, k2⟩, ⟨R3, W3, k3⟩, k4, k5, k6, k7⟩, ⟨R7, W7, D7, kM, kD⟩, hx, hRB, hRP, hRS⟩ := hJ
  obtain ⟨r6, _, v6, _⟩ := dt_X6_total s2 x1 (fun _ => True) (wq_X6_total k2 (fun _ => trivial))
  obtain ⟨r7, _, v7, _⟩ := dt_X7_total m x1 (fun _ => True) (wq_X7_total kM (fun _ => trivial))
  exact ⟨r6, r7, N, m, fun Q h => v6 (fun o => Q o) h, fun Q h => v7 (fun o => Q o) h, rfl, ⟨⟨k1, ⟨R, W, k2⟩, ⟨R3, W3, k3⟩, k4, k5, k6, k7⟩, ⟨R7, W7, D7, kM, kD⟩, hx, hRB, hRP, hRS⟩⟩
set_option maxHeartbeats 4000000 in
theorem pm_cost {s1 : Tp} {s2 s3 : Bd} {s4 : Mo} {s5 : Pg} {s6 : Pa} {z7 : Nat → Option Bd} {m : Md} {N : Int} {x1 : Int32} (hJ : JJ N s1 s2 s3 s4 s5 s6 z7 m) : ∃ (r6 r7 : Int32) (M : Int) (mn : Md), (∀ Q : Int32 → Prop, Q r6  → wp_X6_cost Q s1 s2 x1) ∧ (∀ Q : Int32 → Md → Prop, Q r7 mn → wp_X7_cost Q m x1) ∧ JJ M s1 s2 s3 s4 s5 s6 z7 mn := by
  have hJ0 := hJ
  obtain ⟨⟨k1, ⟨R, W, k2⟩, ⟨R3, W3, k3⟩, k4, k5, k6, k7⟩, ⟨R7, W7, D7, kM, kD⟩, hx, hRB, hRP, hRS⟩ := hJ
  obtain ⟨r6, _, v6, _⟩ := dt_X6_cost s1 s2 x1 (fun _ => True) (wq_X6_cost k1 k2 (fun _ => trivial))
  obtain ⟨o7, a7, v7, _⟩ := dt_X7_cost m x1 (fun o => ∃ M R W D9, mb M R W D9 o.2 ∧ (R ≤ 0 ∨ 0 < D9) ∧ M = N) (wq_X7_cost kM kD (fun r u b0 => ⟨N, R7, W7, D7, b0, kD, rfl⟩))
  obtain ⟨o8, o8e, ht⟩ := fx_X7_cost m x1 (fun x => x = o7) (v7 (fun x => x = o7) rfl)
  rw [o8e] at ht
  obtain ⟨r7, mn⟩ := o7
  obtain ⟨M7, R8, W8, D8, m7, d7, l7⟩ := a7
  have ht : mn.2.2.2 2 = m.2.2.2 2 := ht
  have m70 := m7
  have eM : M7 = N := by omega
  rw [eM] at m7
  have hxn : RX s1 mn := RX_k hx rfl (Int32.toInt_inj.mp (k1.1.trans m7.1.symm)) m7.1 m7.2.2.1 ht
  obtain ⟨o2, o2e, hp⟩ := fp_X7_cost m x1 (fun x => x = (r7, mn)) (v7 (fun x => x = (r7, mn)) rfl)
  rw [o2e] at hp
  obtain ⟨o3, o3e, hw⟩ := fw_X7_cost m x1 (fun x => x = (r7, mn)) (v7 (fun x => x = (r7, mn)) rfl)
  rw [o3e] at hw
  have hp : mn.1 0 = m.1 0 ∧ mn.2.2.1 1 = m.2.2.1 1 ∧ mn.2.2.1 2 = m.2.2.1 2 ∧ mn.2.2.2 0 = m.2.2.2 0 := by simpa only [Prod.mk.injEq] using hp
  have hw : mn.2.2.1 0 = m.2.2.1 0 := hw
  have jB : RB s2 (mn.2.2.1 0) := by rw [hw]; exact hRB
  have jP := RP_k hRP hp.1 hp.2.1
  have jS : RSh z7 mn := RSh_k hRS hp.2.2.2 hp.2.2.1
  exact ⟨r6, r7, N, mn, fun Q h => v6 (fun o => Q o) h, fun Q h => v7 (fun o => Q o.1 o.2) h, ⟨⟨k1, ⟨R, W, k2⟩, ⟨R3, W3, k3⟩, k4, k5, k6, k7⟩, ⟨R8, W8, D8, m7, d7⟩, hxn, jB, jP, jS⟩⟩
set_option maxHeartbeats 4000000 in
theorem pm_best {s1 : Tp} {s2 s3 : Bd} {s4 : Mo} {s5 : Pg} {s6 : Pa} {z7 : Nat → Option Bd} {m : Md} {N : Int} {x1 : Int32} {x2 : Int32} (hJ : JJ N s1 s2 s3 s4 s5 s6 z7 m) : ∃ (r6 r7 : Int32) (M : Int) (mn : Md), (∀ Q : Int32 → Prop, Q r6  → wp_X6_best Q s1 s2 x1 x2) ∧ (∀ Q : Int32 → Md → Prop, Q r7 mn → wp_X7_best Q m x1 x2) ∧ JJ M s1 s2 s3 s4 s5 s6 z7 mn := by
  have hJ0 := hJ
  obtain ⟨⟨k1, ⟨R, W, k2⟩, ⟨R3, W3, k3⟩, k4, k5, k6, k7⟩, ⟨R7, W7, D7, kM, kD⟩, hx, hRB, hRP, hRS⟩ := hJ
  obtain ⟨r6, _, v6, _⟩ := dt_X6_best s1 s2 x1 x2 (fun _ => True) (wq_X6_best k1 k2 (fun _ => trivial))
  obtain ⟨o7, a7, v7, _⟩ := dt_X7_best m x1 x2 (fun o => ∃ M R W D9, mb M R W D9 o.2 ∧ (R ≤ 0 ∨ 0 < D9) ∧ M = N) (wq_X7_best kM kD (fun r u b0 => ⟨N, R7, W7, D7, b0, kD, rfl⟩))
  obtain ⟨o8, o8e, ht⟩ := fx_X7_best m x1 x2 (fun x => x = o7) (v7 (fun x => x = o7) rfl)
  rw [o8e] at ht
  obtain ⟨r7, mn⟩ := o7
  obtain ⟨M7, R8, W8, D8, m7, d7, l7⟩ := a7
  have ht : mn.2.2.2 2 = m.2.2.2 2 := ht
  have m70 := m7
  have eM : M7 = N := by omega
  rw [eM] at m7
  have hxn : RX s1 mn := RX_k hx rfl (Int32.toInt_inj.mp (k1.1.trans m7.1.symm)) m7.1 m7.2.2.1 ht
  obtain ⟨o2, o2e, hp⟩ := fp_X7_best m x1 x2 (fun x => x = (r7, mn)) (v7 (fun x => x = (r7, mn)) rfl)
  rw [o2e] at hp
  obtain ⟨o3, o3e, hw⟩ := fw_X7_best m x1 x2 (fun x => x = (r7, mn)) (v7 (fun x => x = (r7, mn)) rfl)
  rw [o3e] at hw
  have hp : mn.1 0 = m.1 0 ∧ mn.2.2.1 1 = m.2.2.1 1 ∧ mn.2.2.1 2 = m.2.2.1 2 ∧ mn.2.2.2 0 = m.2.2.2 0 := by simpa only [Prod.mk.injEq] using hp
  have hw : mn.2.2.1 0 = m.2.2.1 0 := hw
  have jB : RB s2 (mn.2.2.1 0) := by rw [hw]; exact hRB
  have jP := RP_k hRP hp.1 hp.2.1
  have jS : RSh z7 mn := RSh_k hRS hp.2.2.2 hp.2.2.1
  exact ⟨r6, r7, N, mn, fun Q h => v6 (fun o => Q o) h, fun Q h => v7 (fun o => Q o.1 o.2) h, ⟨⟨k1, ⟨R, W, k2⟩, ⟨R3, W3, k3⟩, k4, k5, k6, k7⟩, ⟨R8, W8, D8, m7, d7⟩, hxn, jB, jP, jS⟩⟩
set_option maxHeartbeats 4000000 in
theorem pm_place {s1 : Tp} {s2 s3 : Bd} {s4 : Mo} {s5 : Pg} {s6 : Pa} {z7 : Nat → Option Bd} {m : Md} {N : Int} {x1 : Int32} {x2 : Int32} (hJ : JJ N s1 s2 s3 s4 s5 s6 z7 m) : ∃ (r6 r7 : Int32) (M : Int) (mn : Md), (∀ Q : Int32 → Prop, Q r6  → wp_X6_place Q s1 s2 x1 x2) ∧ (∀ Q : Int32 → Md → Prop, Q r7 mn → wp_X7_place Q m x1 x2) ∧ JJ M s1 s2 s3 s4 s5 s6 z7 mn := by
  have hJ0 := hJ
  obtain ⟨⟨k1, ⟨R, W, k2⟩, ⟨R3, W3, k3⟩, k4, k5, k6, k7⟩, ⟨R7, W7, D7, kM, kD⟩, hx, hRB, hRP, hRS⟩ := hJ
  obtain ⟨r6, _, v6, _⟩ := dt_X6_place s1 s2 x1 x2 (fun _ => True) (wq_X6_place k1 k2 (fun _ => trivial))
  obtain ⟨o7, a7, v7, _⟩ := dt_X7_place m x1 x2 (fun o => ∃ M R W D9, mb M R W D9 o.2 ∧ (R ≤ 0 ∨ 0 < D9) ∧ M = N) (wq_X7_place kM kD (fun r u b0 => ⟨N, R7, W7, D7, b0, kD, rfl⟩))
  obtain ⟨o8, o8e, ht⟩ := fx_X7_place m x1 x2 (fun x => x = o7) (v7 (fun x => x = o7) rfl)
  rw [o8e] at ht
  obtain ⟨r7, mn⟩ := o7
  obtain ⟨M7, R8, W8, D8, m7, d7, l7⟩ := a7
  have ht : mn.2.2.2 2 = m.2.2.2 2 := ht
  have m70 := m7
  have eM : M7 = N := by omega
  rw [eM] at m7
  have hxn : RX s1 mn := RX_k hx rfl (Int32.toInt_inj.mp (k1.1.trans m7.1.symm)) m7.1 m7.2.2.1 ht
  obtain ⟨o2, o2e, hp⟩ := fp_X7_place m x1 x2 (fun x => x = (r7, mn)) (v7 (fun x => x = (r7, mn)) rfl)
  rw [o2e] at hp
  obtain ⟨o3, o3e, hw⟩ := fw_X7_place m x1 x2 (fun x => x = (r7, mn)) (v7 (fun x => x = (r7, mn)) rfl)
  rw [o3e] at hw
  have hp : mn.1 0 = m.1 0 ∧ mn.2.2.1 1 = m.2.2.1 1 ∧ mn.2.2.1 2 = m.2.2.1 2 ∧ mn.2.2.2 0 = m.2.2.2 0 := by simpa only [Prod.mk.injEq] using hp
  have hw : mn.2.2.1 0 = m.2.2.1 0 := hw
  have jB : RB s2 (mn.2.2.1 0) := by rw [hw]; exact hRB
  have jP := RP_k hRP hp.1 hp.2.1
  have jS : RSh z7 mn := RSh_k hRS hp.2.2.2 hp.2.2.1
  exact ⟨r6, r7, N, mn, fun Q h => v6 (fun o => Q o) h, fun Q h => v7 (fun o => Q o.1 o.2) h, ⟨⟨k1, ⟨R, W, k2⟩, ⟨R3, W3, k3⟩, k4, k5, k6, k7⟩, ⟨R8, W8, D8, m7, d7⟩, hxn, jB, jP, jS⟩⟩
set_option maxHeartbeats 4000000 in
theorem pm_log {s1 : Tp} {s2 s3 : Bd} {s4 : Mo} {s5 : Pg} {s6 : Pa} {z7 : Nat → Option Bd} {m : Md} {N : Int} {x1 : Int32} {x2 : Int32} (hJ : JJ N s1 s2 s3 s4 s5 s6 z7 m) : ∃ (r6 r7 : Int32) (M : Int) (mn : Md), (∀ Q : Int32 → Prop, Q r6  → wp_X6_log Q s2 x1 x2) ∧ (∀ Q : Int32 → Prop, Q r7 → wp_X7_log Q m x1 x2) ∧ mn = m ∧ JJ M s1 s2 s3 s4 s5 s6 z7 mn := by
  have hJ0 := hJ
  obtain ⟨⟨k1, ⟨R, W, k2⟩, ⟨R3, W3, k3⟩, k4, k5, k6, k7⟩, ⟨R7, W7, D7, kM, kD⟩, hx, hRB, hRP, hRS⟩ := hJ
  obtain ⟨r6, _, v6, _⟩ := dt_X6_log s2 x1 x2 (fun _ => True) (wq_X6_log k2 (fun _ => trivial))
  obtain ⟨r7, _, v7, _⟩ := dt_X7_log m x1 x2 (fun _ => True) (wq_X7_log kM (fun _ => trivial))
  exact ⟨r6, r7, N, m, fun Q h => v6 (fun o => Q o) h, fun Q h => v7 (fun o => Q o) h, rfl, ⟨⟨k1, ⟨R, W, k2⟩, ⟨R3, W3, k3⟩, k4, k5, k6, k7⟩, ⟨R7, W7, D7, kM, kD⟩, hx, hRB, hRP, hRS⟩⟩
set_option maxHeartbeats 4000000 in
theorem pm_often {s1 : Tp} {s2 s3 : Bd} {s4 : Mo} {s5 : Pg} {s6 : Pa} {z7 : Nat → Option Bd} {m : Md} {N : Int} {x1 : Int32} {x2 : Int32} {x3 : Int32} (hJ : JJ N s1 s2 s3 s4 s5 s6 z7 m) : ∃ (r6 r7 : Int32) (M : Int) (mn : Md), (∀ Q : Int32 → Prop, Q r6  → wp_X6_often Q s2 x1 x2 x3) ∧ (∀ Q : Int32 → Prop, Q r7 → wp_X7_often Q m x1 x2 x3) ∧ mn = m ∧ JJ M s1 s2 s3 s4 s5 s6 z7 mn := by
  have hJ0 := hJ
  obtain ⟨⟨k1, ⟨R, W, k2⟩, ⟨R3, W3, k3⟩, k4, k5, k6, k7⟩, ⟨R7, W7, D7, kM, kD⟩, hx, hRB, hRP, hRS⟩ := hJ
  obtain ⟨r6, _, v6, _⟩ := dt_X6_often s2 x1 x2 x3 (fun _ => True) (wq_X6_often k2 (fun _ => trivial))
  obtain ⟨r7, _, v7, _⟩ := dt_X7_often m x1 x2 x3 (fun _ => True) (wq_X7_often kM (fun _ => trivial))
  exact ⟨r6, r7, N, m, fun Q h => v6 (fun o => Q o) h, fun Q h => v7 (fun o => Q o) h, rfl, ⟨⟨k1, ⟨R, W, k2⟩, ⟨R3, W3, k3⟩, k4, k5, k6, k7⟩, ⟨R7, W7, D7, kM, kD⟩, hx, hRB, hRP, hRS⟩⟩
set_option maxHeartbeats 4000000 in
theorem pm_usual {s1 : Tp} {s2 s3 : Bd} {s4 : Mo} {s5 : Pg} {s6 : Pa} {z7 : Nat → Option Bd} {m : Md} {N : Int} {x1 : Int32} {x2 : Int32} (hJ : JJ N s1 s2 s3 s4 s5 s6 z7 m) : ∃ (r6 r7 : Int32) (M : Int) (mn : Md), (∀ Q : Int32 → Prop, Q r6  → wp_X6_usual Q s2 x1 x2) ∧ (∀ Q : Int32 → Prop, Q r7 → wp_X7_usual Q m x1 x2) ∧ mn = m ∧ JJ M s1 s2 s3 s4 s5 s6 z7 mn := by
  have hJ0 := hJ
  obtain ⟨⟨k1, ⟨R, W, k2⟩, ⟨R3, W3, k3⟩, k4, k5, k6, k7⟩, ⟨R7, W7, D7, kM, kD⟩, hx, hRB, hRP, hRS⟩ := hJ
  obtain ⟨r6, _, v6, _⟩ := dt_X6_usual s2 x1 x2 (fun _ => True) (wq_X6_usual k2 (fun _ => trivial))
  obtain ⟨r7, _, v7, _⟩ := dt_X7_usual m x1 x2 (fun _ => True) (wq_X7_usual kM (fun _ => trivial))
  exact ⟨r6, r7, N, m, fun Q h => v6 (fun o => Q o) h, fun Q h => v7 (fun o => Q o) h, rfl, ⟨⟨k1, ⟨R, W, k2⟩, ⟨R3, W3, k3⟩, k4, k5, k6, k7⟩, ⟨R7, W7, D7, kM, kD⟩, hx, hRB, hRP, hRS⟩⟩
set_option maxHeartbeats 4000000 in
theorem pm_better {s1 : Tp} {s2 s3 : Bd} {s4 : Mo} {s5 : Pg} {s6 : Pa} {z7 : Nat → Option Bd} {m : Md} {N : Int} {x1 : Int32} {x2 : Int32} (hJ : JJ N s1 s2 s3 s4 s5 s6 z7 m) : ∃ (r6 r7 : Int32) (M : Int) (mn : Md), (∀ Q : Int32 → Prop, Q r6  → wp_X6_better Q s2 x1 x2) ∧ (∀ Q : Int32 → Prop, Q r7 → wp_X7_better Q m x1 x2) ∧ mn = m ∧ JJ M s1 s2 s3 s4 s5 s6 z7 mn := by
  have hJ0 := hJ
  obtain ⟨⟨k1, ⟨R, W, k2⟩, ⟨R3, W3, k3⟩, k4, k5, k6, k7⟩, ⟨R7, W7, D7, kM, kD⟩, hx, hRB, hRP, hRS⟩ := hJ
  obtain ⟨r6, _, v6, _⟩ := dt_X6_better s2 x1 x2 (fun _ => True) (wq_X6_better k2 (fun _ => trivial))
  obtain ⟨r7, _, v7, _⟩ := dt_X7_better m x1 x2 (fun _ => True) (wq_X7_better kM (fun _ => trivial))
  exact ⟨r6, r7, N, m, fun Q h => v6 (fun o => Q o) h, fun Q h => v7 (fun o => Q o) h, rfl, ⟨⟨k1, ⟨R, W, k2⟩, ⟨R3, W3, k3⟩, k4, k5, k6, k7⟩, ⟨R7, W7, D7, kM, kD⟩, hx, hRB, hRP, hRS⟩⟩
set_option maxHeartbeats 4000000 in
theorem pm_farthest {s1 : Tp} {s2 s3 : Bd} {s4 : Mo} {s5 : Pg} {s6 : Pa} {z7 : Nat → Option Bd} {m : Md} {N : Int} {x1 : Int32} {x2 : Int32} (hJ : JJ N s1 s2 s3 s4 s5 s6 z7 m) : ∃ (r6 r7 : Int32) (M : Int) (mn : Md), (∀ Q : Int32 → Prop, Q r6  → wp_X6_farthest Q s2 x1 x2) ∧ (∀ Q : Int32 → Prop, Q r7 → wp_X7_farthest Q m x1 x2) ∧ mn = m ∧ JJ M s1 s2 s3 s4 s5 s6 z7 mn := by
  have hJ0 := hJ
  obtain ⟨⟨k1, ⟨R, W, k2⟩, ⟨R3, W3, k3⟩, k4, k5, k6, k7⟩, ⟨R7, W7, D7, kM, kD⟩, hx, hRB, hRP, hRS⟩ := hJ
  obtain ⟨r6, _, v6, _⟩ := dt_X6_farthest s2 x1 x2 (fun _ => True) (wq_X6_farthest k2 (fun _ => trivial))
  obtain ⟨r7, _, v7, _⟩ := dt_X7_farthest m x1 x2 (fun _ => True) (wq_X7_farthest kM kD (fun _ => trivial))
  exact ⟨r6, r7, N, m, fun Q h => v6 (fun o => Q o) h, fun Q h => v7 (fun o => Q o) h, rfl, ⟨⟨k1, ⟨R, W, k2⟩, ⟨R3, W3, k3⟩, k4, k5, k6, k7⟩, ⟨R7, W7, D7, kM, kD⟩, hx, hRB, hRP, hRS⟩⟩
set_option maxHeartbeats 4000000 in
theorem pm_lacks {s1 : Tp} {s2 s3 : Bd} {s4 : Mo} {s5 : Pg} {s6 : Pa} {z7 : Nat → Option Bd} {m : Md} {N : Int} {x1 : Int32} {x2 : Int32} (hJ : JJ N s1 s2 s3 s4 s5 s6 z7 m) : ∃ (r6 r7 : Int32) (M : Int) (mn : Md), (∀ Q : Int32 → Prop, Q r6  → wp_X6_lacks Q s2 x1 x2) ∧ (∀ Q : Int32 → Prop, Q r7 → wp_X7_lacks Q m x1 x2) ∧ mn = m ∧ JJ M s1 s2 s3 s4 s5 s6 z7 mn := by
  have hJ0 := hJ
  obtain ⟨⟨k1, ⟨R, W, k2⟩, ⟨R3, W3, k3⟩, k4, k5, k6, k7⟩, ⟨R7, W7, D7, kM, kD⟩, hx, hRB, hRP, hRS⟩ := hJ
  obtain ⟨r6, _, v6, _⟩ := dt_X6_lacks s2 x1 x2 (fun _ => True) (wq_X6_lacks k2 (fun _ => trivial))
  obtain ⟨r7, _, v7, _⟩ := dt_X7_lacks m x1 x2 (fun _ => True) (wq_X7_lacks kM kD (fun _ => trivial))
  exact ⟨r6, r7, N, m, fun Q h => v6 (fun o => Q o) h, fun Q h => v7 (fun o => Q o) h, rfl, ⟨⟨k1, ⟨R, W, k2⟩, ⟨R3, W3, k3⟩, k4, k5, k6, k7⟩, ⟨R7, W7, D7, kM, kD⟩, hx, hRB, hRP, hRS⟩⟩
set_option maxHeartbeats 4000000 in
theorem pm_rests {s1 : Tp} {s2 s3 : Bd} {s4 : Mo} {s5 : Pg} {s6 : Pa} {z7 : Nat → Option Bd} {m : Md} {N : Int} {x1 : Int32} (hJ : JJ N s1 s2 s3 s4 s5 s6 z7 m) : ∃ (r6 r7 : Int32) (M : Int) (s3n : Bd) (s4n : Mo) (mn : Md), (∀ Q : Int32 → Bd → Mo → Prop, Q r6 s3n s4n → wp_X6_rests Q s2 s3 s4 x1) ∧ (∀ Q : Int32 → Md → Prop, Q r7 mn → wp_X7_rests Q m x1) ∧ JJ M s1 s2 s3n s4n s5 s6 z7 mn := by
  have hJ0 := hJ
  obtain ⟨⟨k1, ⟨R, W, k2⟩, ⟨R3, W3, k3⟩, k4, k5, k6, k7⟩, ⟨R7, W7, D7, kM, kD⟩, hx, hRB, hRP, hRS⟩ := hJ
  obtain ⟨o, a6, v6, _⟩ := dt_X6_rests s2 s3 s4 x1 (fun o => bx o.2.1 ∧ mo o.2.2) (wq_X6_rests k2 k3 k4 (fun r ua ub R4 W4 b0 b1 => ⟨⟨R4, W4, b0⟩, b1⟩))
  obtain ⟨r6, s3n, s4n⟩ := o
  obtain ⟨g0, g1⟩ := a6
  obtain ⟨o7, a7, v7, _⟩ := dt_X7_rests m x1 (fun o => ∃ M R W D9, mb M R W D9 o.2 ∧ (R ≤ 0 ∨ 0 < D9) ∧ M = N) (wq_X7_rests kM kD (fun r u R4 W4 D4 b0 b1 => ⟨N, R4, W4, D4, b0, b1, rfl⟩))
  obtain ⟨o8, o8e, ht⟩ := fx_X7_rests m x1 (fun x => x = o7) (v7 (fun x => x = o7) rfl)
  rw [o8e] at ht
  obtain ⟨r7, mn⟩ := o7
  obtain ⟨M7, R8, W8, D8, m7, d7, l7⟩ := a7
  have ht : mn.2.2.2 2 = m.2.2.2 2 := ht
  have m70 := m7
  have eM : M7 = N := by omega
  rw [eM] at m7
  have hxn : RX s1 mn := RX_k hx rfl (Int32.toInt_inj.mp (k1.1.trans m7.1.symm)) m7.1 m7.2.2.1 ht
  obtain ⟨ra, y_s3, y_s4, ym, e6, e7, nb⟩ := sm_rests (P6 := fun r a_s3 a_s4 => (r, a_s3, a_s4) = (r6, s3n, s4n)) (P7 := fun r u => (r, u) = (r7, mn)) hRB kM kD (v6 (fun x => x = (r6, s3n, s4n)) rfl) (v7 (fun x => x = (r7, mn)) rfl)
  have f7 : ra = r7 ∧ ym = mn := by simpa only [Prod.mk.injEq] using e7
  have f6 : ra = r6 ∧ y_s3 = s3n ∧ y_s4 = s4n := by simpa only [Prod.mk.injEq] using e6
  rw [f7.2] at nb
  have jB : RB s2 (mn.2.2.1 0) := RB_cg kM.2.2.2.2.1 (fun i hi => nb.1 i (by omega)) hRB
  have jP0 : RP s6 mn := RP_k hRP nb.2.1 nb.2.2.1
  have jS : RSh z7 mn := RSh_k hRS nb.2.2.2.2 nb.2.2.2.1
  have jP := jP0
  exact ⟨r6, r7, N, s3n, s4n, mn, fun Q h => v6 (fun o => Q o.1 o.2.1 o.2.2) h, fun Q h => v7 (fun o => Q o.1 o.2) h, ⟨⟨k1, ⟨R, W, k2⟩, g0, g1, k5, k6, k7⟩, ⟨R8, W8, D8, m7, d7⟩, hxn, jB, jP, jS⟩⟩
set_option maxHeartbeats 4000000 in
theorem pm_unlike {s1 : Tp} {s2 s3 : Bd} {s4 : Mo} {s5 : Pg} {s6 : Pa} {z7 : Nat → Option Bd} {m : Md} {N : Int} {x1 : Int32} {x2 : Int32} (hJ : JJ N s1 s2 s3 s4 s5 s6 z7 m) : ∃ (r6 r7 : Int32) (M : Int) (mn : Md), (∀ Q : Int32 → Prop, Q r6  → wp_X6_unlike Q s2 x1 x2) ∧ (∀ Q : Int32 → Prop, Q r7 → wp_X7_unlike Q m x1 x2) ∧ mn = m ∧ JJ M s1 s2 s3 s4 s5 s6 z7 mn := by
  have hJ0 := hJ
  obtain ⟨⟨k1, ⟨R, W, k2⟩, ⟨R3, W3, k3⟩, k4, k5, k6, k7⟩, ⟨R7, W7, D7, kM, kD⟩, hx, hRB, hRP, hRS⟩ := hJ
  obtain ⟨r6, _, v6, _⟩ := dt_X6_unlike s2 x1 x2 (fun _ => True) (wq_X6_unlike k2 (fun _ => trivial))
  obtain ⟨r7, _, v7, _⟩ := dt_X7_unlike m x1 x2 (fun _ => True) (wq_X7_unlike kM kD (fun _ => trivial))
  exact ⟨r6, r7, N, m, fun Q h => v6 (fun o => Q o) h, fun Q h => v7 (fun o => Q o) h, rfl, ⟨⟨k1, ⟨R, W, k2⟩, ⟨R3, W3, k3⟩, k4, k5, k6, k7⟩, ⟨R7, W7, D7, kM, kD⟩, hx, hRB, hRP, hRS⟩⟩
set_option maxHeartbeats 4000000 in
theorem pm_letter {s1 : Tp} {s2 s3 : Bd} {s4 : Mo} {s5 : Pg} {s6 : Pa} {z7 : Nat → Option Bd} {m : Md} {N : Int} {x1 : Int32} {x2 : Int32} (hJ : JJ N s1 s2 s3 s4 s5 s6 z7 m) : ∃ (r6 r7 : Int32) (M : Int) (mn : Md), (∀ Q : Int32 → Prop, Q r6  → wp_X6_letter Q s2 x1 x2) ∧ (∀ Q : Int32 → Prop, Q r7 → wp_X7_letter Q m x1 x2) ∧ mn = m ∧ JJ M s1 s2 s3 s4 s5 s6 z7 mn := by
  have hJ0 := hJ
  obtain ⟨⟨k1, ⟨R, W, k2⟩, ⟨R3, W3, k3⟩, k4, k5, k6, k7⟩, ⟨R7, W7, D7, kM, kD⟩, hx, hRB, hRP, hRS⟩ := hJ
  obtain ⟨r6, _, v6, _⟩ := dt_X6_letter s2 x1 x2 (fun _ => True) (wq_X6_letter k2 (fun _ => trivial))
  obtain ⟨r7, _, v7, _⟩ := dt_X7_letter m x1 x2 (fun _ => True) (wq_X7_letter kM kD (fun _ => trivial))
  exact ⟨r6, r7, N, m, fun Q h => v6 (fun o => Q o) h, fun Q h => v7 (fun o => Q o) h, rfl, ⟨⟨k1, ⟨R, W, k2⟩, ⟨R3, W3, k3⟩, k4, k5, k6, k7⟩, ⟨R7, W7, D7, kM, kD⟩, hx, hRB, hRP, hRS⟩⟩
set_option maxHeartbeats 4000000 in
theorem pm_digest {s1 : Tp} {s2 s3 : Bd} {s4 : Mo} {s5 : Pg} {s6 : Pa} {z7 : Nat → Option Bd} {m : Md} {N : Int}  (hJ : JJ N s1 s2 s3 s4 s5 s6 z7 m) : ∃ (r6 r7 : Int64) (M : Int) (mn : Md), (∀ Q : Int64 → Prop, Q r6  → wp_X6_digest Q s2) ∧ (∀ Q : Int64 → Prop, Q r7 → wp_X7_digest Q m ) ∧ mn = m ∧ JJ M s1 s2 s3 s4 s5 s6 z7 mn := by
  have hJ0 := hJ
  obtain ⟨⟨k1, ⟨R, W, k2⟩, ⟨R3, W3, k3⟩, k4, k5, k6, k7⟩, ⟨R7, W7, D7, kM, kD⟩, hx, hRB, hRP, hRS⟩ := hJ
  obtain ⟨r6, _, v6, _⟩ := dt_X6_digest s2 (fun _ => True) (wq_X6_digest k2 (fun _ => trivial))
  obtain ⟨r7, _, v7, _⟩ := dt_X7_digest m  (fun _ => True) (wq_X7_digest kM (fun _ => trivial))
  exact ⟨r6, r7, N, m, fun Q h => v6 (fun o => Q o) h, fun Q h => v7 (fun o => Q o) h, rfl, ⟨⟨k1, ⟨R, W, k2⟩, ⟨R3, W3, k3⟩, k4, k5, k6, k7⟩, ⟨R7, W7, D7, kM, kD⟩, hx, hRB, hRP, hRS⟩⟩
set_option maxHeartbeats 4000000 in
theorem pm_count {s1 : Tp} {s2 s3 : Bd} {s4 : Mo} {s5 : Pg} {s6 : Pa} {z7 : Nat → Option Bd} {m : Md} {N : Int} {x1 : Int32} (hJ : JJ N s1 s2 s3 s4 s5 s6 z7 m) : ∃ (r6 r7 : Int32) (M : Int) (s4n : Mo) (s6n : Pa) (mn : Md), (∀ Q : Int32 → Mo → Pa → Prop, Q r6 s4n s6n → wp_X6_count Q s1 s2 s4 s6 z7 x1) ∧ (∀ Q : Int32 → Md → Prop, Q r7 mn → wp_X7_count Q m x1) ∧ s6n.2 = s6.2 ∧ JJ M s1 s2 s3 s4n s5 s6n z7 mn := by
  have hJ0 := hJ
  obtain ⟨⟨k1, ⟨R, W, k2⟩, ⟨R3, W3, k3⟩, k4, k5, k6, k7⟩, ⟨R7, W7, D7, kM, kD⟩, hx, hRB, hRP, hRS⟩ := hJ
  obtain ⟨o, a6, v6, _⟩ := dt_X6_count s1 s2 s4 s6 z7 x1 (fun o => mo o.2.1 ∧ (pa o.2.2 ∧ o.2.2.2 = s6.2)) (wq_X6_count k1 k2 k4 k6 (fun r ua ub b0 b1 b2 => ⟨b0, ⟨b1, b2⟩⟩))
  obtain ⟨r6, s4n, s6n⟩ := o
  obtain ⟨g0, ⟨pa6, pe6⟩⟩ := a6
  obtain ⟨o7, a7, v7, _⟩ := dt_X7_count m x1 (fun o => ∃ M R W D9, mb M R W D9 o.2 ∧ (R ≤ 0 ∨ 0 < D9) ∧ M = N) (wq_X7_count kM kD (fun r u b0 => ⟨N, R7, W7, D7, b0, kD, rfl⟩))
  obtain ⟨o8, o8e, ht⟩ := fx_X7_count m x1 (fun x => x = o7) (v7 (fun x => x = o7) rfl)
  rw [o8e] at ht
  obtain ⟨r7, mn⟩ := o7
  obtain ⟨M7, R8, W8, D8, m7, d7, l7⟩ := a7
  have ht : mn.2.2.2 2 = m.2.2.2 2 := ht
  have m70 := m7
  have eM : M7 = N := by omega
  rw [eM] at m7
  have hxn : RX s1 mn := RX_k hx rfl (Int32.toInt_inj.mp (k1.1.trans m7.1.symm)) m7.1 m7.2.2.1 ht
  obtain ⟨ra, y_s4, ym, e6, e7, nb⟩ := sm_count (P6 := fun r a_s4 a_s6 => (r, a_s4, a_s6) = (r6, s4n, s6n)) (P7 := fun r u => (r, u) = (r7, mn)) hx hRB hRP hRS kM kD (v6 (fun x => x = (r6, s4n, s6n)) rfl) (v7 (fun x => x = (r7, mn)) rfl)
  have f7 : ra = r7 ∧ ym = mn := by simpa only [Prod.mk.injEq] using e7
  have f6 : ra = r6 ∧ y_s4 = s4n ∧ s6 = s6n := by simpa only [Prod.mk.injEq] using e6
  rw [f7.2] at nb
  have jB : RB s2 (mn.2.2.1 0) := RB_cg kM.2.2.2.2.1 (fun i hi => nb.1 i (by omega)) hRB
  have jP0 : RP s6 mn := RP_k hRP nb.2.1 nb.2.2.1
  have jS : RSh z7 mn := RSh_k hRS nb.2.2.2.2 nb.2.2.2.1
  have jP : RP s6n mn := by rw [← f6.2.2]; exact jP0
  exact ⟨r6, r7, N, s4n, s6n, mn, fun Q h => v6 (fun o => Q o.1 o.2.1 o.2.2) h, fun Q h => v7 (fun o => Q o.1 o.2) h, pe6, ⟨⟨k1, ⟨R, W, k2⟩, ⟨R3, W3, k3⟩, g0, k5, pa6, k7⟩, ⟨R8, W8, D8, m7, d7⟩, hxn, jB, jP, jS⟩⟩
