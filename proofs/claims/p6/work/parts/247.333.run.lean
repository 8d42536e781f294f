/-! run. -/
def SO (v v' : Md) : Prop := ie [6, 7, 8, 9, 10, 11, 12, 13, 14] v'.1 v.1 ∧ v'.2 = v.2
theorem SO_tr {u v w : Md} (a : SO u v) (b : SO v w) : SO u w := ⟨ie_tr b.1 (fun _ h => h) a.1, b.2.trans a.2⟩
theorem SN_so {v w : Md} (h : SN v w) : SO v w := ⟨fun k hk => h.1 k (fun g => hk (by
  simp only [List.mem_cons, List.not_mem_nil, or_false] at g ⊢
  omega)), h.2⟩
def stR (s : Tp) : Tp := ((va_up (va_up (va_up (va_up (va_up s.1 1 0) 2 0) 3 0) 4 0) 5 0), s.2)
def go0 (v : Md) : Md := ((va_up (va_up (va_up v.1 6 0) 13 0) 14 0), v.2.1, v.2.2.1, v.2.2.2)
theorem go0_so (v : Md) : SO v (go0 v) := ⟨ie_up (ie_up (ie_up (ie_refl _ _) (by decide)) (by decide)) (by decide), rfl⟩
theorem VV_0 {m0 : Md} {R W D : Int} {s1 : Tp} {v : Md} (hX : RX s1 v) (hf : rw_ok R W D (v.2.2.1 0)) (h5 : v.1 5 = m0.1 5) (h2 : v.2.2.2 2 = m0.2.2.2 2) : VV m0 R W D (stR s1) (go0 v) := ⟨⟨hX, rfl, (by show 0 ≤ (0 : Int32).toInt; decide), (by show (0 : Int32).toInt ≤ (v.1 5).toInt; exact hX.2.2.1), rfl⟩, hf, h5, h2⟩
def PGP (P7 : Int32 → Md → Prop) : Int32 → Md → Prop := fun r_1 u_2 => ((¬ r_1 = 0 → wp_X7_nextByte (fun r_4 u_5 => ((r_4 = (-1) → P7 1 u_5) ∧ (¬ r_4 = (-1) → wp_X7_fails (fun r_7 u_8 => ((r_7 = 0 → P7 0 u_8) ∧ (¬ r_7 = 0 → P7 1 u_8))) u_5 (1 : Int32) (u_5.1 6)))) u_2) ∧ (r_1 = 0 → P7 0 u_2))
theorem rd_prog {post : Pg → Tp → Prop} {P7 : Int32 → Md → Prop} {s1 : Tp} {s5 : Pg} {b : Bd} {v : Md} {N R W D : Int} (hX : RX s1 v) (hB : RB b (v.2.2.1 0)) (hM : mb N R W D v) (h6 : wp_X4_readFrom post s5 s1 b) (h7 : wp_X7_goesProgram P7 v 0) : (∃ pg t' v', post pg t' ∧ ¬ t'.1 5 = 0 ∧ P7 0 v' ∧ v'.1 7 = t'.1 5 ∧ SO v v') ∨ (∃ pg t' v', post pg t' ∧ t'.1 5 = 0 ∧ P7 1 v' ∧ SO v v' ∧ PRS v R W D pg 0 (stR s1) 0 t' (pg.1 1).toInt.toNat ∧ tb5 t' (t'.1 1) = -1 ∧ (0 ≤ (pg.1 1).toInt ∧ (pg.1 1).toInt ≤ 80) ∧ RX t' v) := by
  have e0 : (0 : Int32).toInt = 0 := rfl
  have hf := hM.2.2.2.2.1
  have hR := hf.2.2.2.2.2.1
  have rc := RB_cells hf hB
  have bx := hX.2.2
  unfold wp_X4_readFrom wp_X5_startReading at h6
  obtain ⟨n, h6⟩ := h6
  unfold wp_X7_goesProgram at h7
  have h7 : LV 4 (PGP P7) (go0 v) 0 := h7
  obtain ⟨La, Lb, eL, hL⟩ := LV_e (k := 4) (by decide) (by decide)
  rw [eL] at h7
  unfold GA at h7
  have vv := VV_0 (m0 := v) hX hf rfl rfl
  have k := rd_all (post := post) (m0 := v) (N := N) (D := D) rc.1 rc.2.1 rc.2.2.1 ⟨by omega, by omega, by omega, by omega, by omega, by omega⟩ n 0 ((va_up (va_up s5.1 0 0) 1 0), s5.2) (stR s1) (go0 v) 0 _ (PGP P7) La Lb (by decide) (fun _ => hL (by decide)) rfl vv (mb_k hM rfl rfl rfl) rfl rfl (by decide) (by show 6 * (0 : Int32).toInt ≤ (0 : Int32).toInt; decide) h6 h7 (fun u g => g.2 rfl) (fun u g => g.1 (by decide))
  rcases k with ⟨pg', t', v', k1, k2, k3, k4, k5⟩ | ⟨v', n', z4, n2, pg', t2, r, z2, k1, k2, k3, k4, k5, ⟨k6, k6b⟩, k7, ⟨k9, k10, k11, k12⟩, k13, k14, k15, k16, k17⟩
  · exact Or.inl ⟨pg', t', v', k1, k2, k3.2 rfl, k4, SO_tr (go0_so v) (SN_so k5)⟩
  · have p0 : pg'.1 0 = 0 := k13
    have h7 := k1.1 (by decide)
    have eb := VV_b k2 k6
    have h7 := e7_next (by rw [eb]; exact k6b) h7
    rw [eb] at h7
    have so : SO v v' := SO_tr (go0_so v) (SN_so (SM_sn k3))
    have r5 := k2.1.1.2.2
    have r6 := k2.1.2.2
    have a6 := congrArg Int32.toInt k2.1.2.1
    by_cases c : r = -1
    · have h6 := ((k5.1 (by rw [c]; decide)).2 c).1 (Int32.le_iff_toInt_le.mpr (by rw [p0]; decide))
      have rx : RX t2 v := by
        have q := k2.1.1
        obtain ⟨x1, x2, x3, x4, x5⟩ := q
        have e5 : v'.1 5 = v.1 5 := k2.2.2.1
        have e2 := k2.2.2.2
        rw [e5] at x1 x3 x4
        rw [e2] at x2 x5
        exact ⟨x1, x2, x3, x4, x5⟩
      refine Or.inr ⟨pg', t2, v', rd_x (h6.1 rfl), k2.1.2.2.2.2, h7.1 c, so, k7, k6.symm.trans c, ⟨by omega, by omega⟩, rx⟩
    · have bl : wp_X5_blame (fun u_8 => GK b post n' z4 0 pg' u_8) t2 (t2.1 1) 1 := by
        by_cases g : r = 41
        · exact ((k5.2 g).2 (fun q => by
            have := q_lt q
            rw [p0, e0] at this
            omega)).1 c
        · exact (k5.1 g).1 c
      obtain ⟨u', v2, h6, h7, g1, g2, g3⟩ := end_no k2 bl (h7.2 c)
      exact Or.inl ⟨pg', u', v2, rd_x (h6.1 rfl), g1, h7.1 rfl, g2, SO_tr so (SN_so (SM_sn g3))⟩
theorem ex_prog {post : Int32 → Bd → Mo → Pg → Prop} {P7 : Int32 → Md → Prop} {s1 t' : Tp} {pg0 : Pg} {b : Bd} {mo : Mo} {m0 w : Md} {N R W D : Int} (hD : 0 < D) (hX : RX s1 w) (hX2 : RX t' m0) (h5 : w.1 5 = m0.1 5) (h2 : w.2.2.2 2 = m0.2.2.2 2) (hB : RB b (w.2.2.1 0)) (hM : mb N R W D w) (hp : PRS m0 R W D pg0 0 (stR s1) 0 t' (pg0.1 1).toInt.toNat) (hend : tb5 t' (t'.1 1) = -1) (hsz : 0 ≤ (pg0.1 1).toInt ∧ (pg0.1 1).toInt ≤ 80) (h6 : wp_X6_doProgram post t' b mo pg0) (h7 : wp_X7_goesProgram P7 w 1) : ∃ r b' mo' pg' w', post r b' mo' pg' ∧ P7 1 w' ∧ w'.1 13 = r ∧ RB b' (w'.2.2.1 0) ∧ mb N R W D w' ∧ (w'.1 0 = w.1 0 ∧ (∀ k, (k = 1 ∨ k = 2 ∨ k = 3) → w'.2.2.1 k = w.2.2.1 k) ∧ w'.2.2.2 0 = w.2.2.2 0 ∧ w'.2.2.2 2 = w.2.2.2 2) := by
  have e0 : (0 : Int32).toInt = 0 := rfl
  have e200 : (200 : Int32).toInt = 200 := rfl
  have hf := hM.2.2.2.2.1
  unfold wp_X6_doProgram wp_X4_startDoing at h6
  obtain ⟨n, h6⟩ := h6
  unfold wp_X7_goesProgram at h7
  have h7 : LV 4 (PGP P7) (go0 w) 1 := h7
  obtain ⟨La, Lb, eL, hL⟩ := LV_e (k := 4) (by decide) (by decide)
  rw [eL] at h7
  unfold GA at h7
  have vv := VV_0 (m0 := m0) hX hf h5 h2
  have k := prs_ex (s1 := t') (post := post) (pg0 := pg0) (N := N) hD hX2 hsz.2 hp ((va_up (va_up pg0.1 0 0) 2 0), pg0.2) n b mo 0 La Lb _ (PGP P7) (go0 w) (by decide) (fun _ => hL (by decide)) (by omega) ⟨rfl, fun _ _ => rfl⟩ rfl rfl (Or.inl rfl) vv (mb_k hM rfl rfl rfl) rfl rfl (by decide) hB h6 h7 (fun u g => g.1 (by decide))
  have fin : ∀ v' : Md, PGP P7 1 v' → VV m0 R W D t' v' → P7 1 v' := fun v' a hv => by
    have eb := VV_b hv hend.symm
    have a := e7_next (by rw [eb]; decide) (a.1 (by decide))
    rw [eb] at a
    exact a.1 rfl
  have fr : ∀ v' : Md, XH (go0 w) v' → (v'.1 0 = w.1 0 ∧ (∀ k, (k = 1 ∨ k = 2 ∨ k = 3) → v'.2.2.1 k = w.2.2.1 k) ∧ v'.2.2.2 0 = w.2.2.2 0 ∧ v'.2.2.2 2 = w.2.2.2 2) := fun v' a => ⟨a.1.1, a.2.1, a.2.2.1, a.2.2.2⟩
  rcases k with ⟨v', n', c', n99, pg', b', mo', z, k1, k2, k3, k4, k5, k6, k7, k8, k9, k10, k11⟩ | ⟨v', b', mo', pg', k1, k2, k3, k4, k5, k6, k7⟩
  · have pd : (pg'.1 0).toInt = ((0 : Nat) : Int) := by rw [k10.2.1]; rfl
    have h6 := wl_exit (hi := 0) k8 k10.1 pd (Or.inl rfl) (Or.inl rfl)
    have sz := congrArg Int32.toInt k10.1.1
    cases n' with
    | zero => exact (show False from h6).elim
    | succ n' =>
      unfold R9 wp_X6_doProgram_L9 at h6
      by_cases c : 200 ≤ c'
      · have := q_le c
        have e : c' = 200 := Int32.toInt_inj.mp (by omega)
        exact ⟨200, b', mo', pg', v', h6.1 c, fin v' k1 k2, k6.trans e, k4, k3, fr v' k5⟩
      · have h6 := h6.2 c
        unfold wp_X4_hasStep at h6
        have h6 := (h6.2 (fun g => by have := q_lt g; omega)).1 (Int32.le_iff_toInt_le.mpr (by omega))
        exact ⟨c', b', mo', pg', v', h6.2 rfl, fin v' k1 k2, k6, k4, k3, fr v' k5⟩
  · exact ⟨200, b', mo', pg', v', k1, fin v' k2 k3, k7, k5, k4, fr v' k6⟩
theorem nz2 {y : Int32} (h : 0 ≤ y.toInt ∧ y.toInt ≤ 5000) : ¬ (-2) - y = 0 := fun g => by
  have s := tq_sub (-2) y
  have em2 : (-2 : Int32).toInt = -2 := rfl
  have e0 : (0 : Int32).toInt = 0 := rfl
  rw [g, em2, e0] at s
  have s := nw s (by omega)
  omega
theorem sm_run {P6 : Int32 → Tp → Bd → Mo → Pg → Pa → Prop} {P7 : Int32 → Md → Prop} {s1 : Tp} {s2 : Bd} {s4 : Mo} {s5 : Pg} {s6 : Pa} {m : Md} {N N6 R W D R6 W6 : Int} (hz : tz N6 s1) (hb : bi R6 W6 s2) (h5 : pz s5) (hx : RX s1 m) (hp : pa s6) (hP : RP s6 m) (hB : RB s2 (m.2.2.1 0)) (hM : mb N R W D m) (hs : R ≤ 0 ∨ 0 < D) (h6 : wp_X6_run P6 s1 s2 s4 s5 s6) (h7 : wp_X7_run P7 m) : ∃ r t b mo pg p m', P6 r t b mo pg p ∧ P7 r m' ∧ AR m m' b p := by
  have e0 : (0 : Int32).toInt = 0 := rfl
  have em2 : (-2 : Int32).toInt = -2 := rfl
  have hf := hM.2.2.2.2.1
  have hR := hf.2.2.2.2.2.1
  have rc := RB_cells hf hB
  unfold wp_X6_run wp_X6_whyNotProgram at h6
  unfold wp_X7_run at h7
  rcases e0_isThere h6 with ⟨h6, g⟩ | ⟨h6, g⟩
  · rcases e7_isBoard hf h7 with ⟨h7, hD⟩ | ⟨_, gD⟩
    · have h6 := h6.1 (by decide)
      have h7 := h7.2 (by decide)
      have h6 := cj2 (F := fun P => wp_X4_readFrom P s5 s1 s2) (dt_X4_readFrom s5 s1 s2) h6 (wq_X4_readFrom (post := fun _ t => tk N6 t) h5 hz hb (fun _ _ _ a => a))
      rcases rd_prog hx hB hM h6 h7 with ⟨pg, t', v', ⟨h6, tk6⟩, k2, h7, k4, k5⟩ | ⟨pg, t', v', ⟨h6, tk6⟩, k2, h7, k4, k5, k6, k8, k9⟩
      · have h6 := ((e5_isSound h6).2 k2).1 rfl
        have ft := tk6.2.1.2.2.2.2.2
        have nz : ¬ (-2) - t'.1 5 = 0 := nz2 ft
        have h7 := h7.1 rfl
        rcases e7_isBoard (s := ((va_up v'.1 5 0), v'.2.1, v'.2.2.1, v'.2.2.2)) (by show rw_ok R W D (v'.2.2.1 0); rw [k5.2]; exact hf) h7 with ⟨h7, _⟩ | ⟨_, g⟩
        · have h7 := h7.1 (by decide)
          rw [k4] at h7
          exact ⟨_, _, s2, s4, pg, s6, _, h6.1 nz, h7, (by show RB s2 (v'.2.2.1 0); rw [k5.2]; exact hB), RP_k hP (k5.1 0 (by decide)) (by show v'.2.2.1 1 = _; rw [k5.2]), (by show v'.2.2.2 0 = _; rw [k5.2]), (by show v'.2.2.1 2 = _; rw [k5.2])⟩
        · omega
      · have h6 := (((e5_isSound h6).1 k2).2 (by decide)).2 rfl
        have h7 := h7.2 (by decide)
        have B1 : RB s2 (v'.2.2.1 0) := by rw [k4.2]; exact hB
        have M1 : mb N R W D v' := mb_k hM (k4.1 0 (by decide)) (k4.1 5 (by decide)) k4.2
        obtain ⟨p6, u, h6, h7, q1, q2, q3, q4, q5, q6⟩ := sm_push hp (RP_k hP (k4.1 0 (by decide)) (by rw [k4.2])) B1 M1 hs h6 h7
        have u0 : u.2.2.1 0 = v'.2.2.1 0 := q6 0 (by decide)
        have u5 : u.1 5 = m.1 5 := (q3 5 (by decide)).trans (k4.1 5 (by decide))
        have u2 : u.2.2.2 = m.2.2.2 := by rw [q5, k4.2]
        have xu : RX s1 u := by
          obtain ⟨x1, x2, x3, x4, x5⟩ := hx
          refine ⟨by rw [u5]; exact x1, by rw [u2]; exact x2, by rw [u5]; exact x3, by rw [u5]; exact x4, by rw [u2]; exact x5⟩
        obtain ⟨r, b', mo', pg', w', h6, h7, g13, gB, gM, g0, gr, gk, _⟩ := ex_prog hD xu k9 u5 (by rw [u2]) (by rw [u0]; exact B1) q2 k5 k6 k8 h6 h7
        rcases e7_isBoard (s := ((va_up w'.1 5 0), w'.2.1, w'.2.2.1, w'.2.2.2)) gM.2.2.2.2.1 h7 with ⟨h7, _⟩ | ⟨_, g⟩
        · have h7 := (h7.1 (by decide)).2 (by decide)
          rw [g13] at h7
          refine ⟨r, _, b', mo', pg', p6, _, h6, h7, gB, RP_k q1 g0 (gr 1 (by omega)), ?_, ?_⟩
          · show w'.2.2.2 0 = _
            rw [gk, u2]
          · show w'.2.2.1 2 = _
            rw [gr 2 (by omega), q6 2 (by decide), k4.2]
        · omega
    · omega
  · rcases e7_isBoard hf h7 with ⟨_, hD⟩ | ⟨h7, _⟩
    · omega
    · rcases e7_isBoard (s := ((va_up m.1 5 0), m.2.1, m.2.2.1, m.2.2.2)) hf (h7.1 rfl) with ⟨_, hD⟩ | ⟨h7, _⟩
      · omega
      · exact ⟨_, _, s2, s4, s5, s6, _, (h6.2 rfl).1 (by decide), h7.2 rfl, hB, RP_k hP rfl rfl, rfl, rfl⟩
