/-! Times, lists, whole programs done. -/
def TO (s1 : Tp) (post : Int32 → Bd → Mo → Pg → Prop) (pg0 : Pg) (m0 : Md) (N R W D : Int) (d : Nat) (t3 : Tp) (e : Nat) (Q : Int32 → Md → Prop) (v : Md) (pg : Pg) (c : Int) : Prop := (∃ vA n' cA n99 pgA bA moA z, Q 1 vA ∧ VV m0 R W D t3 vA ∧ mb N R W D vA ∧ RB bA (vA.2.2.1 0) ∧ XH v vA ∧ vA.1 13 = cA ∧ (c < cA.toInt ∧ cA.toInt ≤ 200) ∧ WL (fun u => R9 s1 post n' bA moA u cA) n99 pgA z ∧ (pgA.1 2).toInt = (e : Int) ∧ ES pg0 pg d pgA ∧ 0 ≤ z.toInt ∧ z.toInt + (d : Int) ≤ 3) ∨ (∃ vA b' mo' pg', post 200 b' mo' pg' ∧ Q 1 vA ∧ VV m0 R W D t3 vA ∧ mb N R W D vA ∧ RB b' (vA.2.2.1 0) ∧ XH v vA ∧ vA.1 13 = 200)
theorem XH_out {v u vX : Md} (hu : XH v u) (h : XH (inB u) vX) : XH v (outB vX) := by
  obtain ⟨⟨a1, a2, a3⟩, a4, a5, a6⟩ := hu
  obtain ⟨⟨b1, b2, b3⟩, b4, b5, b6⟩ := h
  refine ⟨⟨b1.trans a1, b2.trans a2, ?_⟩, fun k hk => (b4 k hk).trans (a4 k hk), b5.trans a5, b6.trans a6⟩
  show vX.1 14 - 1 = _
  rw [b3]
  show u.1 14 + 1 - 1 = _
  rw [ad_sb, a3]
theorem ex_tms {s1 : Tp} {post : Int32 → Bd → Mo → Pg → Prop} {pg0 : Pg} {m0 : Md} {N R W D : Int} {d lo e : Nat} {t t1 t2 t3 : Tp} {nn : Int32} {pg : Pg} {n : Nat} {b : Bd} {mo : Mo} {c : Int32} {La Lb : LTY} {Q : Int32 → Md → Prop} {v : Md} (d3 : d < 3) (hL : d < 3 → Lb = GTL (LV (3 - d))) (tst : TST m0 R W D d t nn t1) (nb : 0 ≤ nn.toInt ∧ nn.toInt ≤ 20) (pb : PRS m0 R W D pg0 (d + 1) t1 (lo + 1) t2 e) (mx : MEX s1 post pg0 m0 N R W D (d + 1) t1 (lo + 1) t2 e) (cl : CLS m0 R W D t2 t3) (hk : pg0.2 0 lo = 12 ∧ pg0.2 1 lo = nn) (hen : (pg0.2 4 lo).toInt = (e : Int)) (he : lo + 1 < e ∧ (e : Int) ≤ (pg0.1 1).toInt) (hsz : (pg0.1 1).toInt ≤ 80) (h5 : AR5 pg0 pg) (hat : (pg.1 2).toInt = (lo : Int)) (hd0 : (pg.1 0).toInt = (d : Int)) (hV : VV m0 R W D t v) (hM : mb N R W D v) (h14 : (v.1 14).toInt = (d : Int)) (h13 : v.1 13 = c) (hc : 0 ≤ c.toInt ∧ c.toInt < 200) (hB : RB b (v.2.2.1 0)) (h6 : R9 s1 post n b mo pg c) (h7 : GO (GT La Lb) Q v 1) : TO s1 post pg0 m0 N R W D d t3 e Q v pg c.toInt := by
  have e200 : (200 : Int32).toInt = 200 := rfl
  have e1 : (1 : Int32).toInt = 1 := rfl
  have e0 : (0 : Int32).toInt = 0 := rfl
  have e3 : (3 : Int32).toInt = 3 := rfl
  have sz := congrArg Int32.toInt h5.1
  have el : (pg.1 2).toInt.toNat = lo := by omega
  have sc := nw (tq_addr e1 c) (by omega)
  cases n with
  | zero => exact (show False from h6).elim
  | succ n =>
    unfold R9 wp_X6_doProgram_L9 at h6
    have h6 := of_has (by omega) (by omega) (h6.2 (fun g => by have := q_le g; omega))
    have h6 := do_tms (by omega) (by omega) (by rw [el, h5.2 0 (by decide)]; exact hk.1) (h6.1 (by decide))
    unfold wp_X4_goOn at h6
    have h6 := of_kind (by omega) (by omega) h6
    rw [el, h5.2 0 (by decide)] at h6
    have h6 := of_one (by omega) (by omega) (h6.2 hk.1)
    rw [el, h5.2 1 (by decide), hk.2] at h6
    obtain ⟨v1, vv1, s1', h7⟩ := tst v La Lb Q 1 hV h14 h7
    unfold wp_X7_isDone at h7
    have c13 : v1.1 13 = c := (s1'.1 13 (by decide)).trans h13
    have h7 := (h7.2 (by decide)).1 (fun g => by
      have := congrArg Int32.toInt (c13.symm.trans g)
      omega)
    obtain ⟨u, hu⟩ : ∃ w : Md, w = ((va_up v1.1 13 ((v1.1 13) + 1)), v1.2.1, v1.2.2.1, v1.2.2.2) := ⟨_, rfl⟩
    rw [← hu] at h7
    have mu : mb N R W D u := by
      rw [hu]
      exact mb_k (mb_sm hM s1') rfl rfl rfl
    have vvu : VV m0 R W D t1 u := by
      rw [hu]
      exact vv1
    have e2 : u.2 = v.2 := by rw [hu]; exact s1'.2
    have xu : XH v u := by
      have q := SM_xh s1'
      rw [hu]
      exact q
    have u13 : u.1 13 = c + 1 := by
      rw [hu]
      show v1.1 13 + 1 = _
      rw [c13]
    have u14 := congrArg Int32.toInt xu.1.2.2
    have su14 := nw (tq_addr e1 (u.1 14)) (by omega)
    obtain ⟨n90, h7⟩ := h7
    rw [hL d3] at h7
    have vvS : VV m0 R W D t1 (inB u) := vvu
    have mS : mb N R W D (inB u) := mb_k mu rfl rfl rfl
    have i14 : ((inB u).1 14).toInt = (d : Int) + 1 := by
      show (u.1 14 + 1).toInt = _
      omega
    have bS : RB b ((inB u).2.2.1 0) := by
      show RB b (u.2.2.1 0)
      rw [e2]
      exact hB
    cases n90 with
    | zero => exact (show False from h7).elim
    | succ n90 =>
      unfold GTL at h7
      have h7 := (h7.1 rfl).2 (by decide)
      by_cases c0 : nn ≤ 0
      · have := q_le c0
        have h6 := of_end (by omega) (by omega) (h6.1 c0)
        rw [el, h5.2 4 (by decide)] at h6
        obtain ⟨n99, h6⟩ := h6
        rw [wl_b] at h6
        have h7 : LV (3 - d) _ (inB u) 0 := h7.1 c0
        obtain ⟨v2, h7, vv2, s2⟩ := ro_body d3 (prs_ro pb) vvS i14 (Or.inl rfl) h7
        have h7 := h7.1 (by decide)
        cases n90 with
        | zero => exact (show False from h7).elim
        | succ n90 =>
          unfold GTL at h7
          have h7 := (h7.2 (by decide)).1 (Int32.le_iff_toInt_le.mpr (by
            have : (0 + 1 : Int32).toInt = 1 := rfl
            omega))
          obtain ⟨vX, q1, q2, q3⟩ := et_out cl vv2 h7
          have sX := SM_tr s2 q3
          refine Or.inl ⟨outB vX, n, c + 1, n99, _, b, mo, 0, q1, q2, mb_k (mb_sm mS sX) rfl rfl rfl, ?_, XH_out xu (SM_xh sX), ?_, ⟨by omega, by omega⟩, h6, hen, ⟨h5, rfl, fun _ _ => ⟨rfl, rfl⟩⟩, by decide, by rw [e0]; omega⟩
          · show RB b (vX.2.2.1 0)
            rw [sX.2]
            exact bS
          · show vX.1 13 = _
            rw [sX.1 13 (by decide)]
            exact u13
      · have := q_nle c0
        have h6 := ((h6.2 c0).2 (fun g => by have := q_le g; omega)).2
        have h6 := (of_one (by show 0 ≤ (pg.1 2).toInt; omega) (by show (pg.1 2).toInt < (pg.1 1).toInt; omega) h6).2
        have h7 : LV (3 - d) _ (inB u) 1 := h7.2 c0
        have ed : Int32.toNatClampNeg (pg.1 0) = d := by
          rw [tn_i]
          omega
        rw [ed] at h6
        have o1 : ((pg.1, (va_up pg.2 5 (upd (pg.2 5) d (pg.1 2)))) : Pg).2 1 (pg.1 2).toInt.toNat = nn := by
          show pg.2 1 (pg.1 2).toInt.toNat = nn
          rw [el, h5.2 1 (by decide), hk.2]
        rw [o1] at h6
        have sn := nw (tq_subr e1 nn) (by omega)
        have sa := nw (tq_addr e1 (pg.1 2)) (by omega)
        have k := ex_iter (pgO := pg) (z4 := u.1 6) (v0 := inB u) d3 mx pb cl he hsz hen ⟨by omega, by omega⟩ vvS rfl hd0 (nn.toInt.toNat - 1) 0 n n90 b mo ((va_up (va_up pg.1 0 ((pg.1 0) + 1)) 2 ((pg.1 2) + 1)), (va_up (va_up pg.2 5 (upd (pg.2 5) d (pg.1 2))) 6 (upd (pg.2 6) d (nn - 1)))) (c + 1) (inB u) (by rw [e0]; omega) (by decide) ⟨h5.1, fun j hj => (va_n (by omega)).trans ((va_n (by omega)).trans (h5.2 j hj))⟩ (by show (pg.1 2 + 1).toInt = _; omega) rfl (by show (upd (pg.2 5) d (pg.1 2) d).toInt = _; rw [up_e]; exact hat) (by show (upd (pg.2 6) d (nn - 1) d).toInt = _; rw [up_e]; omega) (fun k hk => ⟨(by show upd (pg.2 5) d _ k = _; rw [up_n (by omega)]), (by show upd (pg.2 6) d _ k = _; rw [up_n (by omega)])⟩) vvS mS i14 u13 (by omega) bS h6 h7
        rcases k with ⟨vX, n', c', n99, pg', b', mo', z, k1, k2, k3, k4, k5, k6, k7, k8⟩ | ⟨vX, b', mo', pg', k1, k2, k3, k4, k5, k6, k7⟩
        · exact Or.inl ⟨outB vX, n', c', n99, pg', b', mo', z, k1, k2, mb_k k3 rfl rfl rfl, k4, XH_out xu k5, k6, ⟨by omega, k7.2⟩, k8⟩
        · exact Or.inr ⟨outB vX, b', mo', pg', k1, k2, k3, mb_k k4 rfl rfl rfl, k5, XH_out xu k6, k7⟩
theorem ENC_es {pg0 pg pgA : Pg} {d hi : Nat} (h : ENC pg0 pg d hi) (e : ES pg0 pg d pgA) : ENC pg0 pgA d hi := by
  rcases h with h | ⟨h1, h2, o, o1, o2, o3⟩
  · exact Or.inl h
  · exact Or.inr ⟨h1, h2, o, by rw [(e.2.2 (d - 1) (by omega)).1]; exact o1, o2, o3⟩
theorem prs_ex {s1 : Tp} {post : Int32 → Bd → Mo → Pg → Prop} {pg0 : Pg} {m0 : Md} {N R W D : Int} (hD : 0 < D) (hx : RX s1 m0) (hsz : (pg0.1 1).toInt ≤ 80) {d : Nat} {t t' : Tp} {lo hi : Nat} (h : PRS m0 R W D pg0 d t lo t' hi) : MEX s1 post pg0 m0 N R W D d t lo t' hi := by
  have e1 : (1 : Int32).toInt = 1 := rfl
  have e0 : (0 : Int32).toInt = 0 := rfl
  refine PRS_ind (M := MEX s1 post pg0 m0 N R W D) (fun d t t1 t2 k a bb q lo bst kb ns af => ?_) (fun d t t1 t2 t3 k a bb q lo hi bst kb sp af pr ih => ?_) (fun d t t1 t2 t3 t4 nn lo e tst d3 nb at_ pb ihb cl ns => ?_) (fun d t t1 t2 t3 t4 t5 nn lo e hi tst d3 nb at_ pb ihb cl sp pr ih => ?_) h
  · intro pg n b mo c La Lb Q P v hd hL hh h5 hat hd0 enc hV hM h14 h13 hc hB h6 h7 hQ
    by_cases c2 : c.toInt = 200
    · exact ex_200 (PRS_b1 bst kb ns af) hd hL hV hM h14 h13 c2 hB h6 h7 hQ
    · have sc := nw (tq_addr e1 c) (by omega)
      obtain ⟨n', bA, moA, n99, vA, k1, k2, k3, k4, k5, k6, k7⟩ := ex_bas hD hx bst kb ⟨af.1, af.2.1, af.2.2.1, af.2.2.2.1⟩ (by omega) h5 hat hV hM h13 (by omega) hB h6 h7
      obtain ⟨m, h7⟩ := hQ _ k1
      exact ex_next (tB := s1) (pgA := ((va_up pg.1 2 (pg0.2 4 lo)), pg.2)) (z := 0) (Or.inl ⟨rfl, ns⟩) hd hL hh ⟨h5, rfl, fun _ _ => ⟨rfl, rfl⟩⟩ af.2.2.2.2 hd0 (ENC_es enc ⟨h5, rfl, fun _ _ => ⟨rfl, rfl⟩⟩) k2 k3 (by rw [k5.1.2.2]; exact h14) k6 (by omega) k4 k5 k7 ⟨by decide, by rw [e0]; omega⟩ h7
  · intro pg n b mo c La Lb Q P v hd hL hh h5 hat hd0 enc hV hM h14 h13 hc hB h6 h7 hQ
    by_cases c2 : c.toInt = 200
    · exact ex_200 (PRS_bc bst kb sp af pr) hd hL hV hM h14 h13 c2 hB h6 h7 hQ
    · have lt := PRS_lt pr
      have sc := nw (tq_addr e1 c) (by omega)
      obtain ⟨n', bA, moA, n99, vA, k1, k2, k3, k4, k5, k6, k7⟩ := ex_bas hD hx bst kb ⟨af.1, af.2.1, af.2.2.1, af.2.2.2.1⟩ (by omega) h5 hat hV hM h13 (by omega) hB h6 h7
      obtain ⟨m, h7⟩ := hQ _ k1
      exact ex_next (pgA := ((va_up pg.1 2 (pg0.2 4 lo)), pg.2)) (z := 0) (Or.inr ⟨sp, ih, lt⟩) hd hL hh ⟨h5, rfl, fun _ _ => ⟨rfl, rfl⟩⟩ af.2.2.2.2 hd0 (ENC_es enc ⟨h5, rfl, fun _ _ => ⟨rfl, rfl⟩⟩) k2 k3 (by rw [k5.1.2.2]; exact h14) k6 (by omega) k4 k5 k7 ⟨by decide, by rw [e0]; omega⟩ h7
  · intro pg n b mo c La Lb Q P v hd hL hh h5 hat hd0 enc hV hM h14 h13 hc hB h6 h7 hQ
    by_cases c2 : c.toInt = 200
    · exact ex_200 (PRS_t1 tst d3 nb at_ pb cl ns) hd hL hV hM h14 h13 c2 hB h6 h7 hQ
    · rcases ex_tms d3 hL tst nb pb ihb cl at_.1 at_.2.1 ⟨at_.2.2, hh⟩ hsz h5 hat hd0 hV hM h14 h13 (by omega) hB h6 h7 with ⟨vA, n', cA, n99, pgA, bA, moA, z, k1, k2, k3, k4, k5, k6, k7, k8, k9, k10, k11⟩ | ⟨vA, b', mo', pg', k1, k2, k3, k4, k5, k6, k7⟩
      · obtain ⟨m, h7⟩ := hQ _ k1
        exact ex_next (tB := s1) (Or.inl ⟨rfl, ns⟩) hd hL hh k10 k9 hd0 (ENC_es enc k10) k2 k3 (by rw [k5.1.2.2]; exact h14) k6 (by omega) k4 k5 k8 k11 h7
      · obtain ⟨m, h7⟩ := hQ _ k2
        obtain ⟨v2, vv2, s2, h7⟩ := px_nsp ns k3 h7
        exact Or.inr ⟨v2, b', mo', pg', k1, h7, vv2, mb_sm k4 s2, by rw [s2.2]; exact k5, XH_tr k6 (SM_xh s2), (s2.1 13 (by decide)).trans k7⟩
  · intro pg n b mo c La Lb Q P v hd hL hh h5 hat hd0 enc hV hM h14 h13 hc hB h6 h7 hQ
    by_cases c2 : c.toInt = 200
    · exact ex_200 (PRS_tc tst d3 nb at_ pb cl sp pr) hd hL hV hM h14 h13 c2 hB h6 h7 hQ
    · rcases ex_tms d3 hL tst nb pb ihb cl at_.1 at_.2.1 ⟨at_.2.2, by have := PRS_lt pr; omega⟩ hsz h5 hat hd0 hV hM h14 h13 (by omega) hB h6 h7 with ⟨vA, n', cA, n99, pgA, bA, moA, z, k1, k2, k3, k4, k5, k6, k7, k8, k9, k10, k11⟩ | ⟨vA, b', mo', pg', k1, k2, k3, k4, k5, k6, k7⟩
      · obtain ⟨m, h7⟩ := hQ _ k1
        exact ex_next (Or.inr ⟨sp, ih, PRS_lt pr⟩) hd hL hh k10 k9 hd0 (ENC_es enc k10) k2 k3 (by rw [k5.1.2.2]; exact h14) k6 (by omega) k4 k5 k8 k11 h7
      · obtain ⟨m, h7⟩ := hQ _ k2
        obtain ⟨v2, m', vv2, s2, h7⟩ := px_sep sp k3 h7
        have x2 := XH_tr k6 (SM_xh s2)
        obtain ⟨v3, q1, q2, q3⟩ := prs_ro pr La Lb _ P v2 1 hd hL vv2 (by rw [x2.1.2.2]; exact h14) (Or.inr ((s2.1 13 (by decide)).trans k7)) h7 (fun u g => ⟨m', g.1 (by decide)⟩)
        have s3 := SM_tr s2 q3
        exact Or.inr ⟨v3, b', mo', pg', k1, q1, q2, mb_sm k4 s3, by rw [s3.2]; exact k5, XH_tr k6 (SM_xh s3), (s3.1 13 (by decide)).trans k7⟩
