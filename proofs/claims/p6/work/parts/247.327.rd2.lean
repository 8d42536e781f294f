/-! Reading, all of it. -/
theorem LO_mono {b : Bd} {post : Pg → Tp → Prop} {m0 : Md} {R W D : Int} {n n' d : Nat} {pg : Pg} {t : Tp} {P : Int32 → Md → Prop} {v : Md} (hn : n ≤ n') (h : LO b post m0 R W D n d pg t P v) : LO b post m0 R W D n' d pg t P v := by
  rcases h with h | ⟨v', n1, z4, n2, pg', t2, r, z2, k1, k2, k3, k4, k5⟩
  · exact Or.inl h
  · exact Or.inr ⟨v', n1, z4, n2, pg', t2, r, z2, k1, k2, k3, by omega, k5⟩
theorem rd_all {b : Bd} {post : Pg → Tp → Prop} {m0 : Md} {N R W D : Int} (hR : (b.1 0).toInt = R) (hW : (b.1 1).toInt = W) (hRW : (b.1 0 * b.1 1).toInt = R * W) (hb : 0 ≤ R ∧ R ≤ 6 ∧ 0 ≤ W ∧ W ≤ 10 ∧ 0 ≤ R * W ∧ R * W ≤ 40) : ∀ n, IHD b post m0 N R W D n := by
  have e1 : (1 : Int32).toInt = 1 := rfl
  have e0 : (0 : Int32).toInt = 0 := rfl
  have e80 : (80 : Int32).toInt = 80 := rfl
  intro n
  induction n using Nat.strongRecOn with
  | _ n ih =>
  cases n with
  | zero =>
    intro d pg t v z4 Q P La Lb _ _ _ _ _ _ _ _ _ h
    exact (show False from h).elim
  | succ n =>
    intro d pg t v z4 Q P La Lb hd hL hp0 hV hM h14 hsz hz0 hz6 h6 h7 hQ0 hQ1
    have r5 := hV.1.1.2.2
    have r6 := hV.1.2.2
    have a6 := congrArg Int32.toInt hV.1.2.1
    have szi := congrArg Int32.toInt hsz
    have s4 := nw (tq_addr e1 z4) (by omega)
    unfold wp_X4_readFrom_L19 at h6
    have h6 := (h6.2 (fun c => by have := q_le c; omega)).2 (by decide)
    rcases st_step (C := fun r a c => wp_X5_isSound (fun r_9 => ((r_9 = 0 → wp_X4_readFrom_L19 b post (fun t0 t1 _ _ => post t0 t1) n a c 0 (z4 + 1)) ∧ (¬ r_9 = 0 → ((r = 12 → wp_X4_readFrom_L19 b post (fun t0 t1 _ _ => post t0 t1) n a c 1 (z4 + 1)) ∧ (¬ r = 12 → wp_X4_goesOn (GK b post n z4) a c))))) c) (m0 := m0) (D := D) hR hW hRW hb (by omega) (by omega) ⟨v, hV, hM⟩ h6 with ⟨r, a, bb, q, t', n12, s5, h6, bst⟩ | ⟨r, pg', t', nz, h6, sfl⟩ | ⟨nn, pg1, t', ⟨hs, hu⟩, trw⟩
    · obtain ⟨n2, h6⟩ := (((e5_isSound h6).1 s5).2 (by decide)).2 n12
      obtain ⟨kb, pos, v', vv, sm, h7⟩ := bst v _ Q 0 hV h7
      unfold wp_X7_isDone at h7
      obtain ⟨m, h7⟩ := hQ1 _ ((h7.1 rfl).1 rfl).2
      obtain ⟨⟨d0, d1⟩, ⟨f0, f1, f2, f3, f4⟩, f5, f6⟩ := AD_a (s := pg) (k := r) (a := a) (b := bb) (q := q) (by omega)
      have d1i := nw (tq_addr e1 (pg.1 1)) (by omega)
      have dd := congrArg Int32.toInt d1
      have ee : ((AD pg r a bb q).1 1).toInt.toNat = (pg.1 1).toInt.toNat + 1 := by omega
      have af : AF (AD pg r a bb q) (pg.1 1).toInt.toNat r a bb q := ⟨f0, f1, f2, f3, by rw [f4]; omega⟩
      refine rd_next (ih n (by omega)) hd hL vv (mb_sm hM sm) (by rw [sm.1 14 (by decide)]; exact h14) sm (z2 := 0) (by rw [e0]; omega) (by decide) h6 h7 (fun tB ns => ?_) (fun pg' tB tC hi hx sp pr => ?_) d0 hp0 (by omega) (by omega) ⟨hz0, by omega⟩ (fun i hi => by rw [f5]) (fun j hj i hi => f6 j hj i (by omega))
      · rw [ee]
        exact PRS_b1 bst kb ns af
      · rw [ee] at pr
        exact PRS_bc bst kb sp (AF_k af (fun j hj => hx j hj _ (by omega))) pr
    · obtain ⟨v', q, f, sm⟩ := sfl (v.1 14) v La Lb Q 0 hV rfl h7
      exact Or.inl ⟨pg', t', v', rd_x (((e5_isSound h6).2 nz).1 rfl), nz, hQ0 _ q, f, SM_sn sm⟩
    · rcases trw v La Lb Q 0 hV (Int32.toInt_inj.mp (h14.trans hp0.symm)) h7 with ⟨s5, d3, e1p, nb, pos, v', vv, sm, h7⟩ | ⟨nz, v', q, f, sm⟩
      · subst e1p
        have d3 : d < 3 := by omega
        have tst : TST m0 R W D d t nn t' := fun v La Lb P x hV h14 h7 => by
          rcases trw v La Lb P x hV (Int32.toInt_inj.mp (h14.trans hp0.symm)) h7 with ⟨_, _, _, _, _, g⟩ | ⟨g, _⟩
          · exact g
          · exact (g s5).elim
        have osz : (OPN pg).1 1 = pg.1 1 := rfl
        have h6 := (((e5_isSound (ad_e (by rw [osz]; omega) (hs s5))).1 s5).2 (by decide)).1 rfl
        obtain ⟨⟨d0, d1⟩, ⟨f0, f1, f2, f3, f4⟩, f5, f6⟩ := AD_a (s := OPN pg) (k := 12) (a := nn) (b := 0) (q := t'.1 4) (by rw [osz]; omega)
        rw [osz] at d1 f0 f1 f2 f3 f4 f6
        have o5 : (AD (OPN pg) 12 nn 0 (t'.1 4)).2 5 = upd (pg.2 5) d (pg.1 1) := by
          rw [f5]
          show upd (pg.2 5) (Int32.toNatClampNeg (pg.1 0)) (pg.1 1) = _
          rw [tn_i]
          congr 1
          omega
        have d0 : (AD (OPN pg) 12 nn 0 (t'.1 4)).1 0 = pg.1 0 + 1 := d0
        have fa : ∀ j, j < 5 → ∀ i : Nat, ¬ i = (pg.1 1).toInt.toNat → (AD (OPN pg) 12 nn 0 (t'.1 4)).2 j i = pg.2 j i := fun j hj i hi => by
          rw [f6 j hj i hi]
          show va_up pg.2 5 _ j i = _
          rw [va_n (by omega)]
        generalize AD (OPN pg) 12 nn 0 (t'.1 4) = pgT at *
        have d1i := nw (tq_addr e1 (pg.1 1)) (by omega)
        have d0i := nw (tq_addr e1 (pg.1 0)) (by omega)
        have dd1 := congrArg Int32.toInt d1
        have dd0 := congrArg Int32.toInt d0
        unfold wp_X7_isDone at h7
        obtain ⟨n90, h7⟩ := h7.1 rfl
        rw [hL d3] at h7
        cases n90 with
        | zero => exact (show False from h7).elim
        | succ n90 =>
          unfold GTL at h7
          have h7 := (h7.1 rfl).1 rfl
          obtain ⟨La', Lb', eL, hL'⟩ := LV_e (k := 3 - d) (by omega) (by omega)
          have h7 : LV (3 - d) _ ((va_up (va_up v'.1 14 ((v'.1 14) + 1)) 6 (v'.1 6)), v'.2.1, v'.2.2.1, v'.2.2.2) 0 := h7
          rw [eL] at h7
          unfold GA at h7
          have v14 : v'.1 14 = v.1 14 := sm.1 14 (by decide)
          have s14 := nw (tq_addr e1 (v.1 14)) (by omega)
          obtain ⟨vS, hvS⟩ : ∃ w : Md, w = ((va_up (va_up v'.1 14 ((v'.1 14) + 1)) 6 (v'.1 6)), v'.2.1, v'.2.2.1, v'.2.2.2) := ⟨_, rfl⟩
          rw [← hvS] at h7
          have vvS : VV m0 R W D t' vS := by
            rw [hvS]
            exact vv
          have mvS : mb N R W D vS := by
            rw [hvS]
            exact mb_k (mb_sm hM sm) rfl rfl rfl
          have vS14 : vS.1 14 = v.1 14 + 1 := by
            rw [hvS, ← v14]
            rfl
          have snS : SN v' vS := by
            rw [hvS]
            exact ⟨ie_up (ie_up (ie_refl _ _) (by decide)) (by decide), rfl⟩
          have k := ih n (by omega) (d + 1) pgT t' vS (z4 + 1) _ _ La' Lb' (by omega) (fun g => by rw [hL' (by omega)]; congr 1) (by omega) vvS mvS (by rw [vS14]; omega) (Int32.toInt_inj.mp (by omega)) (by omega) (by omega) h6 h7 (fun u g => g.2 rfl) (fun u g => g.1 (by decide))
          rcases k with ⟨pg', t2, v2, k1, k2, k3, k4, k5⟩ | ⟨v2, n', z4', n2, pg', t2, r, z2, k1, k2, k3, k4, k5, ⟨k6, k6b⟩, k7, ⟨k9, k10, k11, k12⟩, k13, k14, k15, k16, k17⟩
          · exact Or.inl ⟨pg', t2, v2, k1, k2, hQ0 _ (k3.2 rfl).2, k4, SN_tr (SN_tr (SM_sn sm) snS) k5⟩
          · have h7 := k1.1 (by decide)
            cases n90 with
            | zero => exact (show False from h7).elim
            | succ n90 =>
              unfold GTL at h7
              have h7 := h7.2 (by decide)
              have h7 : ET (WP Q) v2 0 nn 0 (v'.1 6) (0 + 1) := by
                by_cases c : nn ≤ 0 + 1
                · exact h7.1 c
                · exact (h7.2 c).1 rfl
              unfold ET at h7
              have p0 : pg'.1 0 = pg.1 0 + 1 := k13.trans d0
              have p0i := congrArg Int32.toInt p0
              by_cases h41 : r = 41
              · have h6 := ((k5.2 h41).1 (Int32.lt_iff_toInt_lt.mpr (by rw [e0]; omega))).2
                have ex : pg'.1 0 - 1 = pg.1 0 := by
                  have := nw (tq_subr e1 (pg'.1 0)) (by omega)
                  exact Int32.toInt_inj.mp (by omega)
                have eo : (pg'.2 5) (Int32.toNatClampNeg (pg'.1 0 - 1)) = pg.1 1 := by
                  rw [ex, tn_i]
                  have ed : (pg.1 0).toInt.toNat = d := by omega
                  rw [ed, k14 d (by omega), o5]
                  exact up_e
                rw [eo, ex] at h6
                unfold wp_X4_closeTimes wp_X4_hasStep at h6
                have h6 := (((h6.2 (fun c => by have := q_lt c; omega)).2 (fun c => by
                  have := q_le c
                  have : (pg'.1 1).toInt ≤ (pg.1 1).toInt := this
                  omega)).2 (by decide)).2
                have r25 := k2.1.1.2.2
                have r26 := k2.1.2.2
                have cls : CLS m0 R W D t2 (nxt t2) := cls_of k6 h41
                obtain ⟨v3, h7, vv3, sm3⟩ := cls v2 k2 _ h7
                have h7 := (h7.1 (by decide)).2
                obtain ⟨m, h7⟩ := hQ1 _ h7
                have v314 : v3.1 14 = v.1 14 + 1 := (sm3.1 14 (by decide)).trans ((k3.1 14 (by decide)).trans vS14)
                have back : v.1 14 + 1 - 1 = v.1 14 := by
                  have := nw (tq_subr e1 (v.1 14 + 1)) (by omega)
                  exact Int32.toInt_inj.mp (by omega)
                obtain ⟨vA, hvA⟩ : ∃ w : Md, w = ((va_up v3.1 14 ((v3.1 14) - 1)), v3.2.1, v3.2.2.1, v3.2.2.2) := ⟨_, rfl⟩
                rw [← hvA] at h7
                have vvA : VV m0 R W D (nxt t2) vA := by
                  rw [hvA]
                  exact vv3
                have smA : SM v vA := by
                  have q : SN v v3 := SN_tr (SN_tr (SM_sn sm) snS) (SM_sn (SM_tr k3 sm3))
                  refine ⟨fun i hi => ?_, by rw [hvA]; exact q.2⟩
                  rw [hvA]
                  show va_up v3.1 14 (v3.1 14 - 1) i = _
                  by_cases g : i = 14
                  · subst g
                    rw [va_up_self, v314, back]
                  · rw [va_n g]
                    refine q.1 i (fun g2 => ?_)
                    simp only [List.mem_cons, List.not_mem_nil, or_false] at g2 hi
                    omega
                have mA : mb N R W D vA := mb_sm hM smA
                have s2 := nw (tq_addr e1 z2) (by omega)
                have nxp := (VV_nxt k2 (by rw [VV_b k2 k6, h41]; decide)).2
                have eT : (pgT.1 1).toInt.toNat = (pg.1 1).toInt.toNat + 1 := by omega
                rw [eT] at k7
                obtain ⟨pgA, hpA⟩ : ∃ s : Pg, s = ((va_up pg'.1 0 (pg.1 0)), (va_up pg'.2 4 (upd (pg'.2 4) (Int32.toNatClampNeg (pg.1 1)) (pg'.1 1)))) := ⟨_, rfl⟩
                have h6 : wp_X4_goesOn_L2 (GK b post n' z4') (fun t0 t1 _ => GK b post n' z4' 0 t0 t1) n2 pgA (nxt t2) (z2 + 1) := by
                  rw [hpA]
                  exact h6
                have pA1 : pgA.1 1 = pg'.1 1 := by rw [hpA]; rfl
                have pA0 : pgA.1 0 = pg.1 0 := by rw [hpA]; rfl
                have pA5 : pgA.2 5 = pg'.2 5 := by rw [hpA]; rfl
                have pAx : ∀ j, j < 5 → ∀ i : Nat, ¬ (j = 4 ∧ i = (pg.1 1).toInt.toNat) → pgA.2 j i = pg'.2 j i := fun j hj i hn => by
                  rw [hpA]
                  show va_up pg'.2 4 (upd (pg'.2 4) (Int32.toNatClampNeg (pg.1 1)) (pg'.1 1)) j i = _
                  rw [tn_i]
                  by_cases g : j = 4
                  · subst g
                    rw [va_up_self]
                    exact up_n (fun g2 => hn ⟨rfl, g2⟩)
                  · rw [va_n g]
                have pA4 : pgA.2 4 (pg.1 1).toInt.toNat = pg'.1 1 := by
                  rw [hpA]
                  show va_up pg'.2 4 (upd (pg'.2 4) (Int32.toNatClampNeg (pg.1 1)) (pg'.1 1)) 4 _ = _
                  rw [tn_i, va_up_self]
                  exact up_e
                have pA1i := congrArg Int32.toInt pA1
                have at_ : AT pgA (pg.1 1).toInt.toNat nn (pg'.1 1).toInt.toNat := by
                  refine ⟨⟨?_, ?_⟩, by rw [pA4]; omega, by omega⟩
                  · rw [pAx 0 (by decide) _ (by omega), k15 0 (by decide) _ (by omega)]
                    exact f0
                  · rw [pAx 1 (by decide) _ (by omega), k15 1 (by decide) _ (by omega)]
                    exact f1
                refine LO_mono (show n' + 1 ≤ n + 1 by omega) (rd_next (ih n' (by omega)) hd hL vvA mA (by rw [smA.1 14 (by decide)]; exact h14) smA (z2 := z2 + 1) (by omega) (by omega) h6 h7 (fun tB ns => ?_) (fun pg'' tB tC hi hx sp pr => ?_) pA0 hp0 (by omega) (by omega) ⟨k12, by omega⟩ (fun i hi => ?_) (fun j hj i hi => ?_))
                · rw [pA1]
                  exact PRS_t1 tst d3 nb at_ (PRS_k k7 (fun j hj i h1 h2 => pAx j hj i (by omega))) cls ns
                · rw [pA1] at pr
                  exact PRS_tc tst d3 nb (AT_k at_ (fun j hj => hx j hj _ (by omega))) (PRS_k k7 (fun j hj i h1 h2 => (hx j hj i (by omega)).trans (pAx j hj i (by omega)))) cls sp pr
                · rw [pA5, k14 i (by omega), o5]
                  exact up_n (by omega)
                · exact (pAx j hj i (by omega)).trans ((k15 j hj i (by omega)).trans (fa j hj i (by omega)))
              · have bl : wp_X5_blame (fun u_8 => GK b post n' z4' 0 pg' u_8) t2 (t2.1 1) 1 := by
                  by_cases g : r = -1
                  · exact ((k5.1 h41).2 g).2 (fun c => by have := q_le c; omega)
                  · exact (k5.1 h41).1 g
                obtain ⟨u', v3, h6, h7, g1, g2, g3⟩ := cls_no k2 k6 k6b h41 bl h7
                exact Or.inl ⟨pg', u', v3, rd_x (h6.1 rfl), g1, hQ0 _ (h7.2 rfl).2, g2, SN_tr (SN_tr (SM_sn sm) snS) (SM_sn (SM_tr k3 g3))⟩
      · exact Or.inl ⟨pg1, t', v', rd_x (((e5_isSound (hu nz)).2 nz).1 rfl), nz, hQ0 _ q, f, SM_sn sm⟩
