/-! Basic steps, bodies, whole programs. -/
theorem go_else {K : Pg → Prop} {pg0 pg : Pg} {lo : Nat} (h5 : AR5 pg0 pg) (hat : (pg.1 2).toInt = (lo : Int)) (hl : (lo : Int) < (pg0.1 1).toInt) (hk : ¬ pg0.2 0 lo = 12) (h : wp_X4_goOn K pg) : ∃ n99, WL K n99 ((va_up pg.1 2 (pg0.2 4 lo)), pg.2) 0 := by
  have sz := congrArg Int32.toInt h5.1
  have el : (pg.1 2).toInt.toNat = lo := by omega
  unfold wp_X4_goOn at h
  have h := of_kind (by omega) (by omega) h
  rw [el, h5.2 0 (by decide)] at h
  have h := of_end (by omega) (by omega) (h.1 hk)
  rw [el, h5.2 4 (by decide)] at h
  exact h
theorem ex_bas {s1 : Tp} {post : Int32 → Bd → Mo → Pg → Prop} {pg0 : Pg} {m0 : Md} {N R W D : Int} {t t1 : Tp} {k a bb q : Int32} {lo : Nat} {pg : Pg} {n : Nat} {b : Bd} {mo : Mo} {c : Int32} {T : (Int32 → Md → Prop) → Md → Int32 → Prop} {Q : Int32 → Md → Prop} {v : Md} (hD : 0 < D) (hx : RX s1 m0) (bst : BST m0 R W D t k a bb q t1) (kb : KB m0 R W k a bb q) (hr : pg0.2 0 lo = k ∧ pg0.2 1 lo = a ∧ pg0.2 2 lo = bb ∧ pg0.2 3 lo = q) (hl : (lo : Int) < (pg0.1 1).toInt) (h5 : AR5 pg0 pg) (hat : (pg.1 2).toInt = (lo : Int)) (hV : VV m0 R W D t v) (hM : mb N R W D v) (h13 : v.1 13 = c) (hc : 0 ≤ c.toInt ∧ c.toInt < 200) (hB : RB b (v.2.2.1 0)) (h6 : R9 s1 post n b mo pg c) (h7 : GO T Q v 1) : ∃ n' bA moA n99 vA, Q 1 vA ∧ VV m0 R W D t1 vA ∧ mb N R W D vA ∧ RB bA (vA.2.2.1 0) ∧ XH v vA ∧ vA.1 13 = c + 1 ∧ WL (fun u => R9 s1 post n' bA moA u (c + 1)) n99 ((va_up pg.1 2 (pg0.2 4 lo)), pg.2) 0 := by
  have e200 : (200 : Int32).toInt = 200 := rfl
  have sz := congrArg Int32.toInt h5.1
  have el : (pg.1 2).toInt.toNat = lo := by omega
  cases n with
  | zero => exact (show False from h6).elim
  | succ n =>
    unfold R9 wp_X6_doProgram_L9 at h6
    have h6 := of_has (by omega) (by omega) (h6.2 (fun g => by have := q_le g; omega))
    have h6 := h6.1 (by decide)
    obtain ⟨_, _, v1, vv1, s1', h7⟩ := bst v T Q 1 hV h7
    unfold wp_X7_isDone at h7
    have c13 : v1.1 13 = c := (s1'.1 13 (by decide)).trans h13
    have h7 := ((h7.2 (by decide)).1 (fun g => by
      have := congrArg Int32.toInt (c13.symm.trans g)
      omega)).2 (by decide)
    obtain ⟨u, hu⟩ : ∃ w : Md, w = ((va_up v1.1 13 ((v1.1 13) + 1)), v1.2.1, v1.2.2.1, v1.2.2.2) := ⟨_, rfl⟩
    rw [← hu] at h7
    have mu : mb N R W D u := by
      rw [hu]
      exact mb_k (mb_sm hM s1') rfl rfl rfl
    have vvu : VV m0 R W D t1 u := by
      rw [hu]
      exact vv1
    have e2 : u.2 = v.2 := by rw [hu]; exact s1'.2
    have xu : XH v u := by
      have q := SM_xh s1'
      rw [hu]
      exact q
    obtain ⟨bA, moA, vA, h6, h7, g3, g4, g5⟩ := sm_do hD hx kb ⟨⟨by omega, by omega⟩, by rw [el, h5.2 0 (by decide)]; exact hr.1, by rw [el, h5.2 1 (by decide)]; exact hr.2.1, by rw [el, h5.2 2 (by decide)]; exact hr.2.2.1, by rw [el, h5.2 3 (by decide)]; exact hr.2.2.2⟩ (by rw [e2]; exact hB) mu vvu.2.2.2 h6 h7
    have hk12 : ¬ pg0.2 0 lo = 12 := by
      rw [hr.1]
      rcases kb.1 with g | g | g | g | g | g <;> rw [g] <;> decide
    obtain ⟨n99, h6⟩ := go_else h5 hat hl hk12 h6
    refine ⟨n, bA, moA, n99, vA, h7.2, VV_xg vvu g4 g5, g4, g3, XH_tr xu (XG_xh g5), ?_, h6⟩
    rw [g5.1 13 (by decide), hu]
    show v1.1 13 + 1 = _
    rw [c13]
theorem do_tms {P6 : Bd → Mo → Prop} {s1 : Tp} {b : Bd} {mo : Mo} {pg : Pg} {x : Int32} (h0 : 0 ≤ x.toInt) (h1 : x.toInt < (pg.1 1).toInt) (hk : pg.2 0 x.toInt.toNat = 12) (h6 : wp_X6_doStep P6 s1 b mo pg x) : P6 b mo := by
  unfold wp_X6_doStep at h6
  have h6 := of_kind h0 h1 (of_two h0 h1 (of_one h0 h1 h6))
  rw [hk] at h6
  exact (((((h6.2 (by decide)).2 (by decide)).2 (by decide)).2 (by decide)).2 (by decide)).2 (by decide)
theorem et_out {m0 : Md} {R W D : Int} {t2 t3 : Tp} {Q : Int32 → Md → Prop} {v : Md} {a b c d e : Int32} (cl : CLS m0 R W D t2 t3) (hV : VV m0 R W D t2 v) (h : ET (WP Q) v a b c d e) : ∃ vX, Q 1 (outB vX) ∧ VV m0 R W D t3 vX ∧ SM v vX := by
  unfold ET at h
  obtain ⟨vX, h, a, b⟩ := cl v hV _ h
  exact ⟨vX, (h.1 (by decide)).2, a, b⟩
theorem VV_bk {m0 : Md} {N R W D : Int} {t : Tp} {v w : Md} {z : Int32} (h : VV m0 R W D t v) (hM : mb N R W D w) (h5 : w.1 5 = v.1 5) (h2 : w.2.2.2 2 = v.2.2.2 2) (hz : z = v.1 6) : VV m0 R W D t ((va_up w.1 6 z), w.2.1, w.2.2.1, w.2.2.2) := by
  obtain ⟨⟨⟨a1, a2, a3, a4, a5⟩, b1, b2, b3, b4⟩, c1, c2, c3⟩ := h
  subst hz
  refine ⟨⟨⟨?_, ?_, ?_, ?_, ?_⟩, b1, b2, ?_, b4⟩, hM.2.2.2.2.1, ?_, ?_⟩
  · show t.1 0 = w.1 5
    rw [h5]; exact a1
  · show t.2 = (fun k => w.2.2.2 2 k &&& 255)
    rw [h2]; exact a2
  · show 0 ≤ (w.1 5).toInt
    rw [h5]; exact a3
  · show (w.1 5).toInt ≤ 400
    rw [h5]; exact a4
  · show ∀ k, -128 ≤ (w.2.2.2 2 k).toInt ∧ (w.2.2.2 2 k).toInt ≤ 127
    rw [h2]; exact a5
  · show (v.1 6).toInt ≤ (w.1 5).toInt
    rw [h5]; exact b3
  · show w.1 5 = _
    rw [h5]; exact c2
  · show w.2.2.2 2 = _
    rw [h2]; exact c3
/-- what is left of times, read but not done -/
theorem ro_iter {m0 : Md} {N R W D : Int} {d : Nat} {t1 t2 t3 : Tp} {Q : Int32 → Md → Prop} {nn z3 z4 : Int32} {v0 : Md} (d3 : d < 3) (ih : MRO m0 R W D (d + 1) t1 t2) (cl : CLS m0 R W D t2 t3) (nb : nn.toInt ≤ 20) (hV0 : VV m0 R W D t1 v0) (hz4 : z4 = v0.1 6) : ∀ (n90 : Nat) (v : Md) (z5 : Int32), 1 ≤ z5.toInt → VV m0 R W D t2 v → mb N R W D v → v.1 13 = 200 → (v.1 14).toInt = (d : Int) + 1 → GTL (LV (3 - d)) (WP Q) (ET (WP Q)) n90 v 1 nn z3 z4 z5 → ∃ vX, Q 1 (outB vX) ∧ VV m0 R W D t3 vX ∧ SM v vX := by
  have e1 : (1 : Int32).toInt = 1 := rfl
  have e0 : (0 : Int32).toInt = 0 := rfl
  intro n90
  induction n90 with
  | zero =>
    intro v z5 _ _ _ _ _ h
    exact (show False from h).elim
  | succ n90 ihn =>
    intro v z5 h1 hV hM h13 h14 h
    unfold GTL at h
    have h := h.2 (fun g => by have := congrArg Int32.toInt g; omega)
    by_cases c : nn ≤ z5
    · exact et_out cl hV (h.1 c)
    · have := q_nle c
      have s5 := nw (tq_addr e1 z5) (by omega)
      by_cases c3 : z3 = 0
      · exact et_out cl hV ((h.2 c).1 c3)
      · have h := (((h.2 c).2 c3).2 c3).2 c
        have vk := VV_bk (z := z4) hV0 hM (hV.2.2.1.trans hV0.2.2.1.symm) (hV.2.2.2.trans hV0.2.2.2.symm) hz4
        obtain ⟨v', h, vv, s⟩ := ro_body d3 ih vk h14 (Or.inr h13) h
        have s' : SM v v' := SM_tr (SM_up v (by decide)) s
        obtain ⟨vX, q1, q2, q3⟩ := ihn v' (z5 + 1) (by omega) vv (mb_sm hM s') ((s'.1 13 (by decide)).trans h13) (by rw [s'.1 14 (by decide)]; exact h14) (h.1 (by decide))
        exact ⟨vX, q1, q2, SM_tr s' q3⟩
def IO (s1 : Tp) (post : Int32 → Bd → Mo → Pg → Prop) (pg0 : Pg) (m0 : Md) (N R W D : Int) (d : Nat) (t3 : Tp) (e : Nat) (Q : Int32 → Md → Prop) (v : Md) (pgO : Pg) (c : Int) : Prop := (∃ vX n' c' n99 pg' b' mo' z, Q 1 (outB vX) ∧ VV m0 R W D t3 vX ∧ mb N R W D vX ∧ RB b' (vX.2.2.1 0) ∧ XH v vX ∧ vX.1 13 = c' ∧ (c < c'.toInt ∧ c'.toInt ≤ 200) ∧ WL (fun u => R9 s1 post n' b' mo' u c') n99 pg' z ∧ (pg'.1 2).toInt = (e : Int) ∧ ES pg0 pgO d pg' ∧ 0 ≤ z.toInt ∧ z.toInt + (d : Int) ≤ 3) ∨ (∃ vX b' mo' pg', post 200 b' mo' pg' ∧ Q 1 (outB vX) ∧ VV m0 R W D t3 vX ∧ mb N R W D vX ∧ RB b' (vX.2.2.1 0) ∧ XH v vX ∧ vX.1 13 = 200)
theorem ex_iter {s1 : Tp} {post : Int32 → Bd → Mo → Pg → Prop} {pg0 pgO : Pg} {m0 : Md} {N R W D : Int} {d lo e : Nat} {t1 t2 t3 : Tp} {Q : Int32 → Md → Prop} {nn z4 : Int32} {v0 : Md} (d3 : d < 3) (mx : MEX s1 post pg0 m0 N R W D (d + 1) t1 (lo + 1) t2 e) (pb : PRS m0 R W D pg0 (d + 1) t1 (lo + 1) t2 e) (cl : CLS m0 R W D t2 t3) (he : lo + 1 < e ∧ (e : Int) ≤ (pg0.1 1).toInt) (hsz : (pg0.1 1).toInt ≤ 80) (hen : (pg0.2 4 lo).toInt = (e : Int)) (nb : 1 ≤ nn.toInt ∧ nn.toInt ≤ 20) (hV0 : VV m0 R W D t1 v0) (hz4 : z4 = v0.1 6) (hO : (pgO.1 0).toInt = (d : Int)) : ∀ (j : Nat) (i : Int32) (n n90 : Nat) (b : Bd) (mo : Mo) (pg : Pg) (c : Int32) (v : Md), i.toInt + 1 + (j : Int) = nn.toInt → 0 ≤ i.toInt → AR5 pg0 pg → (pg.1 2).toInt = (lo : Int) + 1 → pg.1 0 = pgO.1 0 + 1 → (pg.2 5 d).toInt = (lo : Int) → (pg.2 6 d).toInt = (j : Int) → (∀ k : Nat, k < d → pg.2 5 k = pgO.2 5 k ∧ pg.2 6 k = pgO.2 6 k) → VV m0 R W D t1 v → mb N R W D v → (v.1 14).toInt = (d : Int) + 1 → v.1 13 = c → (0 ≤ c.toInt ∧ c.toInt ≤ 200) → RB b (v.2.2.1 0) → R9 s1 post n b mo pg c → LV (3 - d) (fun r u => ((¬ r = 0 → GTL (LV (3 - d)) (WP Q) (ET (WP Q)) n90 u 1 nn 1 z4 (i + 1)) ∧ (r = 0 → WP Q 0 u))) v 1 → IO s1 post pg0 m0 N R W D d t3 e Q v pgO c.toInt := by
  have e1 : (1 : Int32).toInt = 1 := rfl
  have e0 : (0 : Int32).toInt = 0 := rfl
  have od := nw (tq_addr e1 (pgO.1 0)) (by omega)
  intro j
  induction j with
  | zero =>
    intro i n n90 b mo pg c v hi hi0 h5 hat hdp ho ha hk hV hM h14 h13 hc hB h6 h7
    have si := nw (tq_addr e1 i) (by omega)
    have hpd := congrArg Int32.toInt hdp
    obtain ⟨La', Lb', eL, hL'⟩ := LV_e (k := 3 - d) (by omega) (by omega)
    have h7 := cast (congrFun (congrFun (congrFun eL _) v) 1) h7
    unfold GA at h7
    have enc : ENC pg0 pg (d + 1) e := Or.inr ⟨by omega, by omega, lo, ho, by omega, hen⟩
    have k := mx pg n b mo c La' Lb' _ _ v (by omega) (fun g => by rw [hL' (by omega)]; congr 1) he.2 h5 hat (by omega) enc hV hM h14 h13 hc hB h6 h7 (fun u g => g.1 (by decide))
    rcases k with ⟨v', n', c', n99, pg', b', mo', z, k1, k2, k3, k4, k5, k6, k7, k8, k9, k10, k11, k12⟩ | ⟨v', b', mo', pg', k1, k2, k3, k4, k5, k6, k7⟩
    · have h7 := k1.1 (by decide)
      have o' := k10.2.2 d (by omega)
      have pd' : (pg'.1 0).toInt = ((d + 1 : Nat) : Int) := by rw [k10.2.1]; omega
      have enc' : ENC pg0 pg' (d + 1) e := Or.inr ⟨by omega, by omega, lo, (by show (pg'.2 5 d).toInt = _; rw [o'.1]; exact ho), by omega, hen⟩
      have sz := nw (tq_addr e1 z) (by omega)
      rcases wl_end k8 k10.1 pd' enc' (by omega) k9 (by omega) with ⟨g1, n99', g2⟩ | ⟨g1, _⟩
      · cases n90 with
        | zero => exact (show False from h7).elim
        | succ n90 =>
          unfold GTL at h7
          have h7 := (h7.2 (fun g => by have := congrArg Int32.toInt g; omega)).1 (Int32.le_iff_toInt_le.mpr (by omega))
          obtain ⟨vX, q1, q2, q3⟩ := et_out cl k2 h7
          refine Or.inl ⟨vX, n', c', n99', _, b', mo', z + 1, q1, q2, mb_sm k3 q3, by rw [q3.2]; exact k4, XH_tr k5 (SM_xh q3), (q3.1 13 (by decide)).trans k6, k7, g2, k9, ⟨k10.1, ?_, fun i hi => ?_⟩, by omega, by omega⟩
          · show pg'.1 0 - 1 = _
            rw [k10.2.1, hdp]
            exact ad_sb _
          · have q := k10.2.2 i (by omega)
            exact ⟨q.1.trans (hk i hi).1, q.2.trans (hk i hi).2⟩
      · exfalso
        have g1 : ¬ pg'.2 6 d ≤ 0 := g1
        rw [o'.2] at g1
        exact g1 (Int32.le_iff_toInt_le.mpr (by omega))
    · have h7 := k2.1 (by decide)
      obtain ⟨vX, q1, q2, q3⟩ := ro_iter (N := N) d3 (prs_ro pb) cl (by omega) hV0 hz4 n90 v' (i + 1) (by omega) k3 k4 k7 (by rw [k6.1.2.2]; exact h14) h7
      exact Or.inr ⟨vX, b', mo', pg', k1, q1, q2, mb_sm k4 q3, by rw [q3.2]; exact k5, XH_tr k6 (SM_xh q3), (q3.1 13 (by decide)).trans k7⟩
  | succ j ih =>
    intro i n n90 b mo pg c v hi hi0 h5 hat hdp ho ha hk hV hM h14 h13 hc hB h6 h7
    have si := nw (tq_addr e1 i) (by omega)
    have hpd := congrArg Int32.toInt hdp
    obtain ⟨La', Lb', eL, hL'⟩ := LV_e (k := 3 - d) (by omega) (by omega)
    have h7 := cast (congrFun (congrFun (congrFun eL _) v) 1) h7
    unfold GA at h7
    have enc : ENC pg0 pg (d + 1) e := Or.inr ⟨by omega, by omega, lo, ho, by omega, hen⟩
    have k := mx pg n b mo c La' Lb' _ _ v (by omega) (fun g => by rw [hL' (by omega)]; congr 1) he.2 h5 hat (by omega) enc hV hM h14 h13 hc hB h6 h7 (fun u g => g.1 (by decide))
    rcases k with ⟨v', n', c', n99, pg', b', mo', z, k1, k2, k3, k4, k5, k6, k7, k8, k9, k10, k11, k12⟩ | ⟨v', b', mo', pg', k1, k2, k3, k4, k5, k6, k7⟩
    · have h7 := k1.1 (by decide)
      have o' := k10.2.2 d (by omega)
      have pd' : (pg'.1 0).toInt = ((d + 1 : Nat) : Int) := by rw [k10.2.1]; omega
      have enc' : ENC pg0 pg' (d + 1) e := Or.inr ⟨by omega, by omega, lo, (by show (pg'.2 5 d).toInt = _; rw [o'.1]; exact ho), by omega, hen⟩
      have sz := nw (tq_addr e1 z) (by omega)
      have o5 : (pg'.2 5 d).toInt = (lo : Int) := by rw [o'.1]; exact ho
      have o6 : (pg'.2 6 d).toInt = (j : Int) + 1 := by rw [o'.2, ha]; omega
      rcases wl_end k8 k10.1 pd' enc' (by omega) k9 (by omega) with ⟨g1, _⟩ | ⟨g1, n99', g2⟩
      · exfalso
        have g1 : pg'.2 6 d ≤ 0 := g1
        have := q_le g1
        omega
      · have s5 := nw (tq_addr e1 (pg'.2 5 d)) (by omega)
        have s6 := nw (tq_subr e1 (pg'.2 6 d)) (by omega)
        have g2 : WL (fun u => R9 s1 post n' b' mo' u c') n99' ((va_up pg'.1 2 ((pg'.2 5 d) + 1)), (va_up pg'.2 6 (upd (pg'.2 6) d ((pg'.2 6 d) - 1)))) (z + 1) := g2
        have h5' : AR5 pg0 ((va_up pg'.1 2 ((pg'.2 5 d) + 1)), (va_up pg'.2 6 (upd (pg'.2 6) d ((pg'.2 6 d) - 1)))) := ⟨k10.1.1, fun j hj => (va_n (by omega)).trans (k10.1.2 j hj)⟩
        have h6 := wl_exit (d := d + 1) (hi := e) g2 h5' pd' (Or.inr ⟨by omega, by omega, lo, o5, by omega, hen⟩) (Or.inr (by
          show ¬ (pg'.2 5 d + 1).toInt = _
          omega))
        cases n90 with
        | zero => exact (show False from h7).elim
        | succ n90 =>
          unfold GTL at h7
          have nc : ¬ nn ≤ i + 1 := fun g => by have := q_le g; omega
          have h7 := ((((h7.2 (fun g => by have := congrArg Int32.toInt g; omega)).2 nc).2 (by decide)).2 (by decide)).2 nc
          have vk := VV_bk (z := z4) hV0 k3 (k2.2.2.1.trans hV0.2.2.1.symm) (k2.2.2.2.trans hV0.2.2.2.symm) hz4
          have k := ih (i + 1) n' n90 b' mo' _ c' ((va_up v'.1 6 z4), v'.2.1, v'.2.2.1, v'.2.2.2) (by omega) (by omega) h5' (by show (pg'.2 5 d + 1).toInt = _; omega) (k10.2.1.trans hdp) o5 (by show (upd (pg'.2 6) d (pg'.2 6 d - 1) d).toInt = _; rw [up_e]; omega) (fun i hi => by
            have q := k10.2.2 i (by omega)
            refine ⟨q.1.trans (hk i hi).1, ?_⟩
            show upd (pg'.2 6) d _ i = _
            rw [up_n (by omega)]
            exact q.2.trans (hk i hi).2) vk (mb_k k3 rfl rfl rfl) (by show (v'.1 14).toInt = _; rw [k5.1.2.2]; exact h14) k6 (by omega) k4 h6 h7
          have xk : XH v ((va_up v'.1 6 z4), v'.2.1, v'.2.2.1, v'.2.2.2) := XH_tr k5 (SM_xh (SM_up v' (by decide)))
          rcases k with ⟨vX, a1, a2, a3, a4, a5, a6, a7, k1, k2, k3, k4, k5, k6, k7', k8⟩ | ⟨vX, b', mo', pg', k1, k2, k3, k4, k5, k6, k7⟩
          · exact Or.inl ⟨vX, a1, a2, a3, a4, a5, a6, a7, k1, k2, k3, k4, XH_tr xk k5, k6, ⟨by omega, k7'.2⟩, k8⟩
          · exact Or.inr ⟨vX, b', mo', pg', k1, k2, k3, k4, k5, XH_tr xk k6, k7⟩
    · have h7 := k2.1 (by decide)
      obtain ⟨vX, q1, q2, q3⟩ := ro_iter (N := N) d3 (prs_ro pb) cl (by omega) hV0 hz4 n90 v' (i + 1) (by omega) k3 k4 k7 (by rw [k6.1.2.2]; exact h14) h7
      exact Or.inr ⟨vX, b', mo', pg', k1, q1, q2, mb_sm k4 q3, by rw [q3.2]; exact k5, XH_tr k6 (SM_xh q3), (q3.1 13 (by decide)).trans k7⟩
