/-! The class reads a program, the reference reads it beside it: both fail alike, or there is a tree. -/
def GK (b : Bd) (post : Pg → Tp → Prop) (n : Nat) (z4 : Int32) : Int32 → Pg → Tp → Prop := fun r a c => ((r = 0 → wp_X4_readFrom_L19 b post (fun t0 t1 _ _ => post t0 t1) n a c 0 (z4 + 1)) ∧ (¬ r = 0 → wp_X4_readFrom_L19 b post (fun t0 t1 _ _ => post t0 t1) n a c 1 (z4 + 1)))
def AP (post : Int32 → Pg → Tp → Prop) (n2 : Nat) (t0 : Pg) (u_3 : Tp) (r_2 z2 : Int32) : Prop := ((¬ r_2 = 41 → ((¬ r_2 = (-1) → wp_X5_blame (fun u_8 => post 0 t0 u_8) u_3 (u_3.1 1) (1 : Int32)) ∧ (r_2 = (-1) → (((t0.1 0) ≤ 0 → post 0 t0 u_3) ∧ (¬ (t0.1 0) ≤ 0 → wp_X5_blame (fun u_11 => post 0 t0 u_11) u_3 (u_3.1 1) (1 : Int32)))))) ∧ (r_2 = 41 → ((0 < (t0.1 0) → vp_in ((t0.1 0) - 1) 3 ∧ wp_X4_closeTimes (fun u_15 => wp_X4_goesOn_L2 post (fun t0 t1 _ => post 0 t0 t1) n2 u_15 ((va_up u_3.1 1 ((u_3.1 1) + 1)), u_3.2) (z2 + 1)) ((va_up t0.1 0 ((t0.1 0) - 1)), t0.2) ((t0.2 5) (Int32.toNatClampNeg ((t0.1 0) - 1)))) ∧ (¬ 0 < (t0.1 0) → ((¬ r_2 = (-1) → wp_X5_blame (fun u_18 => post 0 t0 u_18) u_3 (u_3.1 1) (1 : Int32)) ∧ (r_2 = (-1) → (((t0.1 0) ≤ 0 → post 0 t0 u_3) ∧ (¬ (t0.1 0) ≤ 0 → wp_X5_blame (fun u_21 => post 0 t0 u_21) u_3 (u_3.1 1) (1 : Int32)))))))))
def PGL (O : (Int32 → Md → Prop) → Md → Int32 → Prop) (P : Int32 → Md → Prop) (m : Nat) (v : Md) : Prop := GL O P (fun t _ => P 0 t) (fun t _ => P 1 t) m v 0
theorem rd_sep {K : Int32 → Pg → Tp → Prop} {O : (Int32 → Md → Prop) → Md → Int32 → Prop} {P : Int32 → Md → Prop} {m0 : Md} {N R W D : Int} {tA : Tp} {pg : Pg} {vA : Md} {n2 m : Nat} {z2 : Int32} (hV : VV m0 R W D tA vA) (hM : mb N R W D vA) (hz : z2.toInt ≤ 3) (h6 : wp_X4_goesOn_L2 K (fun t0 t1 _ => K 0 t0 t1) n2 pg tA z2) (h7 : PGL O P m vA) : (∃ tB vB m', K 1 pg tB ∧ O (fun r u => (¬ r = 0 → PGL O P m' u) ∧ (r = 0 → P 0 u)) vB 0 ∧ VV m0 R W D tB vB ∧ SM vA vB ∧ (tA.1 1).toInt + 1 ≤ (tB.1 1).toInt ∧ SEP m0 R W D tA tB) ∨ (∃ tB vB r n2', AP K n2' pg tB r z2 ∧ P 1 vB ∧ VV m0 R W D tB vB ∧ SM vA vB ∧ (tA.1 1).toInt ≤ (tB.1 1).toInt ∧ NSP m0 R W D tA tB ∧ r = tb5 tB (tB.1 1) ∧ ¬ r = 32) := by
  have e3 : (3 : Int32).toInt = 3 := rfl
  cases n2 with
  | zero => exact (show False from h6).elim
  | succ n2 =>
    unfold wp_X4_goesOn_L2 at h6
    have h6 := h6.2 (fun c => by have := q_lt c; omega)
    obtain ⟨r, u, h6, hr, hb, hp, hz⟩ := fz_peek hV hM h6
    cases m with
    | zero => exact (show False from h7).elim
    | succ m =>
      unfold PGL GL at h7
      by_cases c : r = 59
      · have sp := (sep_of hz).1 c
        obtain ⟨vB, h7, q1, q2⟩ := sp vA hV _ h7
        obtain ⟨w, _, qa, _⟩ : ∃ w, True ∧ VV m0 R W D u w ∧ True := by
          have r5 := hV.1.2.2
          have n5 := hM.1
          obtain ⟨w, _, a, _⟩ := hz vA hV (fun _ _ => True) (wq_X7_nextByte hM (by omega) (fun _ _ _ _ _ _ _ _ => trivial))
          exact ⟨w, trivial, a, trivial⟩
        have nn := (VV_nxt qa (by rw [VV_b qa hr, c]; decide)).2
        exact Or.inl ⟨nxt u, vB, m, h6.2 c, h7.2 (by decide), q1, q2, by omega, sp⟩
      · have sp := (sep_of hz).2 c
        obtain ⟨vB, h7, q1, q2⟩ := sp vA hV _ h7
        exact Or.inr ⟨u, vB, r, n2, h6.1 c, h7.1 rfl, q1, q2, hp, sp, hr, hb⟩
def SN (v v' : Md) : Prop := ie [6, 7, 8, 9, 10, 11, 12, 14] v'.1 v.1 ∧ v'.2 = v.2
theorem SM_sn {v w : Md} (h : SM v w) : SN v w := ⟨fun k hk => h.1 k (fun g => hk (by
  simp only [List.mem_cons, List.not_mem_nil, or_false] at g ⊢
  omega)), h.2⟩
theorem SN_tr {u v w : Md} (a : SN u v) (b : SN v w) : SN u w := ⟨ie_tr b.1 (fun _ h => h) a.1, b.2.trans a.2⟩
def LO (b : Bd) (post : Pg → Tp → Prop) (m0 : Md) (R W D : Int) (n d : Nat) (pg : Pg) (t : Tp) (P : Int32 → Md → Prop) (v : Md) : Prop := (∃ pg' t' v', post pg' t' ∧ ¬ t'.1 5 = 0 ∧ P 0 v' ∧ v'.1 7 = t'.1 5 ∧ SN v v') ∨ (∃ v' n' z4 n2 pg' t2 r z2, P 1 v' ∧ VV m0 R W D t2 v' ∧ SM v v' ∧ n' < n ∧ AP (GK b post n' z4) n2 pg' t2 r z2 ∧ (r = tb5 t2 (t2.1 1) ∧ ¬ r = 32) ∧ PRS m0 R W D pg' d t (pg.1 1).toInt.toNat t2 (pg'.1 1).toInt.toNat ∧ ((pg.1 1).toInt < (pg'.1 1).toInt ∧ (pg'.1 1).toInt = z4.toInt + 1 ∧ 6 * z4.toInt + 5 ≤ (t2.1 1).toInt ∧ 0 ≤ z4.toInt) ∧ pg'.1 0 = pg.1 0 ∧ (∀ i : Nat, i < d → pg'.2 5 i = pg.2 5 i) ∧ (∀ j, j < 5 → ∀ i : Nat, (i : Int) < (pg.1 1).toInt → pg'.2 j i = pg.2 j i) ∧ 0 ≤ z2.toInt ∧ z2.toInt + (d : Int) ≤ 3)
def IHD (b : Bd) (post : Pg → Tp → Prop) (m0 : Md) (N R W D : Int) (n : Nat) : Prop := ∀ (d : Nat) (pg : Pg) (t : Tp) (v : Md) (z4 : Int32) (Q P : Int32 → Md → Prop) (La Lb : LTY) , d ≤ 3 → (d < 3 → Lb = GTL (LV (3 - d))) → (pg.1 0).toInt = (d : Int) → VV m0 R W D t v → mb N R W D v → (v.1 14).toInt = (d : Int) → pg.1 1 = z4 → 0 ≤ z4.toInt → 6 * z4.toInt ≤ (t.1 1).toInt → wp_X4_readFrom_L19 b post (fun t0 t1 _ _ => post t0 t1) n pg t 1 z4 → GO (GT La Lb) Q v 0 → (∀ u, Q 0 u → P 0 u) → (∀ u, Q 1 u → ∃ m, PGL (GO (GT La Lb)) P m u) → LO b post m0 R W D n d pg t P v
theorem rd_next {b : Bd} {post : Pg → Tp → Prop} {m0 : Md} {N R W D : Int} {n d : Nat} {pg pgA : Pg} {t tA : Tp} {v vA : Md} {P : Int32 → Md → Prop} {La Lb : LTY} {n2 m : Nat} {z2 z4 : Int32} (ih : IHD b post m0 N R W D n) (hd : d ≤ 3) (hL : d < 3 → Lb = GTL (LV (3 - d))) (hV : VV m0 R W D tA vA) (hM : mb N R W D vA) (h14 : (vA.1 14).toInt = (d : Int)) (hs : SM v vA) (hz : z2.toInt + (d : Int) ≤ 3) (hz0 : 0 ≤ z2.toInt) (h6 : wp_X4_goesOn_L2 (GK b post n z4) (fun t0 t1 _ => GK b post n z4 0 t0 t1) n2 pgA tA z2) (h7 : PGL (GO (GT La Lb)) P m vA) (hb1 : ∀ tB, NSP m0 R W D tA tB → PRS m0 R W D pgA d t (pg.1 1).toInt.toNat tB (pgA.1 1).toInt.toNat) (hbc : ∀ pg' tB tC hi, (∀ j, j < 5 → ∀ i : Nat, (i : Int) < (pgA.1 1).toInt → pg'.2 j i = pgA.2 j i) → SEP m0 R W D tA tB → PRS m0 R W D pg' d tB (pgA.1 1).toInt.toNat tC hi → PRS m0 R W D pg' d t (pg.1 1).toInt.toNat tC hi) (hd0 : pgA.1 0 = pg.1 0) (hp0 : (pg.1 0).toInt = (d : Int)) (h1 : (pg.1 1).toInt < (pgA.1 1).toInt) (h1z : (pgA.1 1).toInt = z4.toInt + 1) (hz4 : 0 ≤ z4.toInt ∧ 6 * z4.toInt + 5 ≤ (tA.1 1).toInt) (ho : ∀ i : Nat, i < d → pgA.2 5 i = pg.2 5 i) (ha : ∀ j, j < 5 → ∀ i : Nat, (i : Int) < (pg.1 1).toInt → pgA.2 j i = pg.2 j i) : LO b post m0 R W D (n + 1) d pg t P v := by
  have e1 : (1 : Int32).toInt = 1 := rfl
  have r5 := hV.1.1.2.2
  have r6 := hV.1.2.2
  have a6 := congrArg Int32.toInt hV.1.2.1
  have s4 := nw (tq_addr e1 z4) (by omega)
  rcases rd_sep hV hM (by omega) h6 h7 with ⟨tB, vB, m', h6, h7, q1, q2, q3, q4⟩ | ⟨tB, vB, r, n2', h6, h7, q1, q2, q3, q4, q5, q6⟩
  · have k := ih d pgA tB vB (z4 + 1) _ P La Lb hd hL (by rw [hd0]; exact hp0) q1 (mb_sm hM q2) (by rw [q2.1 14 (by decide)]; exact h14) (Int32.toInt_inj.mp (by omega)) (by omega) (by omega) (h6.2 (by decide)) h7 (fun u g => g.2 rfl) (fun u g => ⟨m', g.1 (by decide)⟩)
    rcases k with ⟨pg', t', v', k1, k2, k3, k4, k5⟩ | ⟨v', n', z4', n2, pg', t2, r, z2, k1, k2, k3, k4, k5, k6, k7, ⟨k9, k10, k11, k12⟩, k13, k14, k15, k16, k17⟩
    · exact Or.inl ⟨pg', t', v', k1, k2, k3, k4, SN_tr (SM_sn (SM_tr hs q2)) k5⟩
    · exact Or.inr ⟨v', n', z4', n2, pg', t2, r, z2, k1, k2, SM_tr hs (SM_tr q2 k3), by omega, k5, k6, hbc _ _ _ _ k15 q4 k7, ⟨by omega, k10, k11, k12⟩, k13.trans hd0, fun i hi => (k14 i hi).trans (ho i hi), fun j hj i hi => (k15 j hj i (by omega)).trans (ha j hj i hi), k16, k17⟩
  · exact Or.inr ⟨vB, n, z4, n2', pgA, tB, r, z2, h7, q1, SM_tr hs q2, by omega, h6, ⟨q5, q6⟩, hb1 _ q4, ⟨h1, h1z, by omega, hz4.1⟩, hd0, ho, ha, hz0, hz⟩
theorem rd_x {b : Bd} {post : Pg → Tp → Prop} {n : Nat} {pg : Pg} {t : Tp} {z : Int32} (h : wp_X4_readFrom_L19 b post (fun t0 t1 _ _ => post t0 t1) n pg t 0 z) : post pg t := by
  cases n with
  | zero => exact (show False from h).elim
  | succ n =>
    unfold wp_X4_readFrom_L19 at h
    by_cases c : 80 ≤ z
    · exact h.1 c
    · exact (h.2 c).1 rfl
theorem AD_a {s : Pg} {k a b q : Int32} (h0 : 0 ≤ (s.1 1).toInt) : ((AD s k a b q).1 0 = s.1 0 ∧ (AD s k a b q).1 1 = s.1 1 + 1) ∧ ((AD s k a b q).2 0 (s.1 1).toInt.toNat = k ∧ (AD s k a b q).2 1 (s.1 1).toInt.toNat = a ∧ (AD s k a b q).2 2 (s.1 1).toInt.toNat = b ∧ (AD s k a b q).2 3 (s.1 1).toInt.toNat = q ∧ (AD s k a b q).2 4 (s.1 1).toInt.toNat = s.1 1 + 1) ∧ (AD s k a b q).2 5 = s.2 5 ∧ (∀ j, j < 5 → ∀ i : Nat, ¬ i = (s.1 1).toInt.toNat → (AD s k a b q).2 j i = s.2 j i) := by
  unfold AD
  rw [tn_i]
  refine ⟨⟨rfl, rfl⟩, ⟨up_e, up_e, up_e, up_e, up_e⟩, rfl, fun j hj i hi => ?_⟩
  rcases (show j = 0 ∨ j = 1 ∨ j = 2 ∨ j = 3 ∨ j = 4 by omega) with rfl | rfl | rfl | rfl | rfl <;> exact up_n hi
