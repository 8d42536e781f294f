/-! A program done on both sides. -/
def R9 (s1 : Tp) (post : Int32 → Bd → Mo → Pg → Prop) (n : Nat) (b : Bd) (mo : Mo) (pg : Pg) (c : Int32) : Prop := wp_X6_doProgram_L9 s1 post (fun t2 t3 t4 _ => post 200 t2 t3 t4) n b mo pg c
def WL (K : Pg → Prop) (n : Nat) (pg : Pg) (z : Int32) : Prop := wp_X4_goOn_L99 K (fun t _ => K t) n pg z
theorem wl_b {p : Pg → Prop} {e : Pg → Int32 → Prop} : ∀ (n : Nat) (s : Pg) (z : Int32), wp_X4_goOn_L99b p e n s z = wp_X4_goOn_L99 p e n s z := by
  intro n
  induction n with
  | zero => intro s z; rfl
  | succ n ih =>
    intro s z
    unfold wp_X4_goOn_L99b wp_X4_goOn_L99
    simp only [ih]
def AR5 (pg0 pg : Pg) : Prop := pg.1 1 = pg0.1 1 ∧ ∀ j, j < 5 → pg.2 j = pg0.2 j
def ENC (pg0 pg : Pg) (d hi : Nat) : Prop := d = 0 ∨ (1 ≤ d ∧ d ≤ 3 ∧ ∃ o : Nat, (pg.2 5 (d - 1)).toInt = (o : Int) ∧ (o : Int) < (pg0.1 1).toInt ∧ (pg0.2 4 o).toInt = (hi : Int))
theorem wl_end {K : Pg → Prop} {pg0 pg : Pg} {d hi n : Nat} {z : Int32} (h : WL K n pg z) (h5 : AR5 pg0 pg) (hd : (pg.1 0).toInt = (d : Int)) (enc : ENC pg0 pg d hi) (hz : z.toInt < 3) (hat : (pg.1 2).toInt = (hi : Int)) (hd1 : 1 ≤ d) : (pg.2 6 (d - 1) ≤ 0 ∧ ∃ n', WL K n' ((va_up pg.1 0 ((pg.1 0) - 1)), pg.2) (z + 1)) ∨ (¬ pg.2 6 (d - 1) ≤ 0 ∧ ∃ n', WL K n' ((va_up pg.1 2 ((pg.2 5 (d - 1)) + 1)), (va_up pg.2 6 (upd (pg.2 6) (d - 1) ((pg.2 6 (d - 1)) - 1)))) (z + 1)) := by
  have e0 : (0 : Int32).toInt = 0 := rfl
  have e1 : (1 : Int32).toInt = 1 := rfl
  have e3 : (3 : Int32).toInt = 3 := rfl
  rcases enc with g | ⟨g1, g2, o, o1, o2, o3⟩
  · omega
  have sz := congrArg Int32.toInt h5.1
  have a4 := h5.2 4 (by decide)
  have s1 := nw (tq_subr e1 (pg.1 0)) (by omega)
  have ed : Int32.toNatClampNeg (pg.1 0 - 1) = d - 1 := by
    rw [tn_i]
    omega
  cases n with
  | zero => exact (show False from h).elim
  | succ n =>
    unfold WL wp_X4_goOn_L99 at h
    have h := ((h.2 (fun c => by have := q_le c; omega)).2 (fun c => by have := q_le c; omega)).2
    rw [ed] at h
    have h := of_end (by omega) (by omega) h
    rw [o1] at h
    have h := (h.2 (Int32.toInt_inj.mp (by rw [a4]; show (pg.1 2).toInt = (pg0.2 4 o).toInt; omega))).2
    by_cases c : pg.2 6 (d - 1) ≤ 0
    · exact Or.inl ⟨c, n, h.1 c⟩
    · exact Or.inr ⟨c, n, (h.2 c).2.2.2⟩
theorem wl_exit {K : Pg → Prop} {pg0 pg : Pg} {d hi n : Nat} {z : Int32} (h : WL K n pg z) (h5 : AR5 pg0 pg) (hd : (pg.1 0).toInt = (d : Int)) (enc : ENC pg0 pg d hi) (hat : d = 0 ∨ ¬ (pg.1 2).toInt = (hi : Int)) : K pg := by
  have e0 : (0 : Int32).toInt = 0 := rfl
  have e1 : (1 : Int32).toInt = 1 := rfl
  have sz := congrArg Int32.toInt h5.1
  have a4 := h5.2 4 (by decide)
  cases n with
  | zero => exact (show False from h).elim
  | succ n =>
    unfold WL wp_X4_goOn_L99 at h
    by_cases c3 : 3 ≤ z
    · exact h.1 c3
    · have h := h.2 c3
      by_cases c0 : pg.1 0 ≤ 0
      · exact h.1 c0
      · have := q_nle c0
        have h := (h.2 c0).2
        rcases enc with g | ⟨g1, g2, o, o1, o2, o3⟩
        · omega
        have s1 := nw (tq_subr e1 (pg.1 0)) (by omega)
        have ed : Int32.toNatClampNeg (pg.1 0 - 1) = d - 1 := by
          rw [tn_i]
          omega
        rw [ed] at h
        have h := of_end (by omega) (by omega) h
        rw [o1, a4] at h
        refine h.1 (fun g => ?_)
        have g : pg.1 2 = pg0.2 4 o := g
        have := congrArg Int32.toInt g
        omega
def XH (v v' : Md) : Prop := (v'.1 0 = v.1 0 ∧ v'.1 5 = v.1 5 ∧ v'.1 14 = v.1 14) ∧ (∀ k, (k = 1 ∨ k = 2 ∨ k = 3) → v'.2.2.1 k = v.2.2.1 k) ∧ v'.2.2.2 0 = v.2.2.2 0 ∧ v'.2.2.2 2 = v.2.2.2 2
theorem XH_rf (v : Md) : XH v v := ⟨⟨rfl, rfl, rfl⟩, fun _ _ => rfl, rfl, rfl⟩
theorem XH_tr {u v w : Md} (a : XH u v) (b : XH v w) : XH u w := ⟨⟨b.1.1.trans a.1.1, b.1.2.1.trans a.1.2.1, b.1.2.2.trans a.1.2.2⟩, fun k hk => (b.2.1 k hk).trans (a.2.1 k hk), b.2.2.1.trans a.2.2.1, b.2.2.2.trans a.2.2.2⟩
theorem SM_xh {v w : Md} (h : SM v w) : XH v w := ⟨⟨h.1 0 (by decide), h.1 5 (by decide), h.1 14 (by decide)⟩, fun _ _ => by rw [h.2], by rw [h.2], by rw [h.2]⟩
theorem XG_xh {v w : Md} (h : XG v w) : XH v w := ⟨⟨h.1 0 (by decide), h.1 5 (by decide), h.1 14 (by decide)⟩, h.2.1, h.2.2.1, h.2.2.2⟩
theorem VV_xg {m0 : Md} {N R W D : Int} {t : Tp} {v w : Md} (h : VV m0 R W D t v) (hM : mb N R W D w) (g : XG v w) : VV m0 R W D t w := by
  obtain ⟨⟨⟨a1, a2, a3, a4, a5⟩, b1, b2, b3, b4⟩, c1, c2, c3⟩ := h
  have e5 : w.1 5 = v.1 5 := g.1 5 (by decide)
  have e6 : w.1 6 = v.1 6 := g.1 6 (by decide)
  refine ⟨⟨⟨?_, ?_, ?_, ?_, ?_⟩, ?_, ?_, ?_, b4⟩, hM.2.2.2.2.1, ?_, ?_⟩
  · rw [e5]; exact a1
  · rw [g.2.2.2]; exact a2
  · rw [e5]; exact a3
  · rw [e5]; exact a4
  · rw [g.2.2.2]; exact a5
  · rw [e6]; exact b1
  · rw [e6]; exact b2
  · rw [e5, e6]; exact b3
  · rw [e5]; exact c2
  · rw [g.2.2.2]; exact c3
def ES (pg0 pg : Pg) (d : Nat) (pg' : Pg) : Prop := AR5 pg0 pg' ∧ pg'.1 0 = pg.1 0 ∧ ∀ i : Nat, i < d → pg'.2 5 i = pg.2 5 i ∧ pg'.2 6 i = pg.2 6 i
/-- behind a list -/
def EO (s1 : Tp) (post : Int32 → Bd → Mo → Pg → Prop) (pg0 : Pg) (m0 : Md) (N R W D : Int) (d : Nat) (t' : Tp) (hi : Nat) (P : Int32 → Md → Prop) (v : Md) (pg : Pg) (c : Int) : Prop := (∃ v' n' c' n99 pg' b' mo' z, P 1 v' ∧ VV m0 R W D t' v' ∧ mb N R W D v' ∧ RB b' (v'.2.2.1 0) ∧ XH v v' ∧ v'.1 13 = c' ∧ (c < c'.toInt ∧ c'.toInt ≤ 200) ∧ WL (fun u => R9 s1 post n' b' mo' u c') n99 pg' z ∧ (pg'.1 2).toInt = (hi : Int) ∧ ES pg0 pg d pg' ∧ 0 ≤ z.toInt ∧ z.toInt + (d : Int) ≤ 3) ∨ (∃ v' b' mo' pg', post 200 b' mo' pg' ∧ P 1 v' ∧ VV m0 R W D t' v' ∧ mb N R W D v' ∧ RB b' (v'.2.2.1 0) ∧ XH v v' ∧ v'.1 13 = 200)
theorem EO_k {s1 : Tp} {post : Int32 → Bd → Mo → Pg → Prop} {pg0 : Pg} {m0 : Md} {N R W D : Int} {d : Nat} {t' : Tp} {hi : Nat} {P : Int32 → Md → Prop} {u v : Md} {pg pg1 : Pg} {c c1 : Int} (h : EO s1 post pg0 m0 N R W D d t' hi P v pg c) (hx : XH u v) (hc : c1 ≤ c) (hp : pg.1 0 = pg1.1 0) (ho : ∀ i : Nat, i < d → pg.2 5 i = pg1.2 5 i ∧ pg.2 6 i = pg1.2 6 i) : EO s1 post pg0 m0 N R W D d t' hi P u pg1 c1 := by
  rcases h with ⟨v', n', c', n99, pg', b', mo', z, k1, k2, k3, k4, k5, k6, k7, k8, k9, k10, k11⟩ | ⟨v', b', mo', pg', k1, k2, k3, k4, k5, k6, k7⟩
  · exact Or.inl ⟨v', n', c', n99, pg', b', mo', z, k1, k2, k3, k4, XH_tr hx k5, k6, ⟨by omega, k7.2⟩, k8, k9, ⟨k10.1, k10.2.1.trans hp, fun i hi => ⟨(k10.2.2 i hi).1.trans (ho i hi).1, (k10.2.2 i hi).2.trans (ho i hi).2⟩⟩, k11⟩
  · exact Or.inr ⟨v', b', mo', pg', k1, k2, k3, k4, k5, XH_tr hx k6, k7⟩
def MEX (s1 : Tp) (post : Int32 → Bd → Mo → Pg → Prop) (pg0 : Pg) (m0 : Md) (N R W D : Int) (d : Nat) (t : Tp) (lo : Nat) (t' : Tp) (hi : Nat) : Prop := ∀ (pg : Pg) (n : Nat) (b : Bd) (mo : Mo) (c : Int32) (La Lb : LTY) (Q P : Int32 → Md → Prop) (v : Md), d ≤ 3 → (d < 3 → Lb = GTL (LV (3 - d))) → (hi : Int) ≤ (pg0.1 1).toInt → AR5 pg0 pg → (pg.1 2).toInt = (lo : Int) → (pg.1 0).toInt = (d : Int) → ENC pg0 pg d hi → VV m0 R W D t v → mb N R W D v → (v.1 14).toInt = (d : Int) → v.1 13 = c → (0 ≤ c.toInt ∧ c.toInt ≤ 200) → RB b (v.2.2.1 0) → R9 s1 post n b mo pg c → GO (GT La Lb) Q v 1 → (∀ u, Q 1 u → ∃ m, PX (GO (GT La Lb)) P m u 1) → EO s1 post pg0 m0 N R W D d t' hi P v pg c.toInt
/-- all two hundred are done -/
theorem ex_200 {s1 : Tp} {post : Int32 → Bd → Mo → Pg → Prop} {pg0 : Pg} {m0 : Md} {N R W D : Int} {d : Nat} {t t' : Tp} {lo hi : Nat} {pg : Pg} {n : Nat} {b : Bd} {mo : Mo} {c : Int32} {La Lb : LTY} {Q P : Int32 → Md → Prop} {v : Md} (hp : PRS m0 R W D pg0 d t lo t' hi) (hd : d ≤ 3) (hL : d < 3 → Lb = GTL (LV (3 - d))) (hV : VV m0 R W D t v) (hM : mb N R W D v) (h14 : (v.1 14).toInt = (d : Int)) (h13 : v.1 13 = c) (hc : c.toInt = 200) (hB : RB b (v.2.2.1 0)) (h6 : R9 s1 post n b mo pg c) (h7 : GO (GT La Lb) Q v 1) (hQ : ∀ u, Q 1 u → ∃ m, PX (GO (GT La Lb)) P m u 1) : EO s1 post pg0 m0 N R W D d t' hi P v pg c.toInt := by
  have e200 : (200 : Int32).toInt = 200 := rfl
  have c2 : c = 200 := Int32.toInt_inj.mp (hc.trans e200.symm)
  obtain ⟨v', q1, q2, q3⟩ := prs_ro hp La Lb Q P v 1 hd hL hV h14 (Or.inr (h13.trans c2)) h7 hQ
  cases n with
  | zero => exact (show False from h6).elim
  | succ n =>
    unfold R9 wp_X6_doProgram_L9 at h6
    exact Or.inr ⟨v', b, mo, pg, h6.1 (Int32.le_iff_toInt_le.mpr (by omega)), q1, q2, mb_sm hM q3, by rw [q3.2]; exact hB, SM_xh q3, (q3.1 13 (by decide)).trans (h13.trans c2)⟩
/-- behind a step: on in the list, or at its end -/
theorem ex_next {s1 : Tp} {post : Int32 → Bd → Mo → Pg → Prop} {pg0 : Pg} {m0 : Md} {N R W D : Int} {d : Nat} {tA tB t' : Tp} {lo hi : Nat} {pg pgA : Pg} {n n99 m : Nat} {b : Bd} {mo : Mo} {c cA z : Int32} {La Lb : LTY} {P : Int32 → Md → Prop} {v vA : Md} (hs : (lo = hi ∧ NSP m0 R W D tA t') ∨ (SEP m0 R W D tA tB ∧ MEX s1 post pg0 m0 N R W D d tB lo t' hi ∧ lo < hi)) (hd : d ≤ 3) (hL : d < 3 → Lb = GTL (LV (3 - d))) (hh : (hi : Int) ≤ (pg0.1 1).toInt) (hes : ES pg0 pg d pgA) (hat : (pgA.1 2).toInt = (lo : Int)) (hd0 : (pg.1 0).toInt = (d : Int)) (enc : ENC pg0 pgA d hi) (hV : VV m0 R W D tA vA) (hM : mb N R W D vA) (h14 : (vA.1 14).toInt = (d : Int)) (h13 : vA.1 13 = cA) (hc : 0 ≤ c.toInt ∧ c.toInt < cA.toInt ∧ cA.toInt ≤ 200) (hB : RB b (vA.2.2.1 0)) (hx : XH v vA) (h6 : WL (fun u => R9 s1 post n b mo u cA) n99 pgA z) (hz : 0 ≤ z.toInt ∧ z.toInt + (d : Int) ≤ 3) (h7 : PX (GO (GT La Lb)) P m vA 1) : EO s1 post pg0 m0 N R W D d t' hi P v pg c.toInt := by
  have pd : (pgA.1 0).toInt = (d : Int) := by rw [hes.2.1]; exact hd0
  rcases hs with ⟨hr, ns⟩ | ⟨sp, mx, lt⟩
  · obtain ⟨v2, vv2, s2, h7⟩ := px_nsp ns hV h7
    exact Or.inl ⟨v2, n, cA, n99, pgA, b, mo, z, h7, vv2, mb_sm hM s2, by rw [s2.2]; exact hB, XH_tr hx (SM_xh s2), (s2.1 13 (by decide)).trans h13, hc.2, h6, by omega, hes, hz⟩
  · have h6 := wl_exit h6 hes.1 pd enc (Or.inr (by omega))
    obtain ⟨v2, m', vv2, s2, h7⟩ := px_sep sp hV h7
    have k := mx pgA n b mo cA La Lb _ P v2 hd hL hh hes.1 hat pd enc vv2 (mb_sm hM s2) (by rw [s2.1 14 (by decide)]; exact h14) ((s2.1 13 (by decide)).trans h13) (by omega) (by rw [s2.2]; exact hB) h6 h7 (fun u g => ⟨m', g.1 (by decide)⟩)
    exact EO_k k (XH_tr hx (SM_xh s2)) (by omega) hes.2.1 hes.2.2
