theorem rem_p {x d : Int32} (hx : 0 ≤ x.toInt) (hd : 0 < d.toInt) : (x - x / d * d).toInt = x.toInt % d.toInt := by
  have q := dv_l (x := x) (d := d) rfl hd hx
  have hr := tq_r x
  have a := Int.ediv_nonneg hx (Int.le_of_lt hd)
  have y0 : 0 ≤ d.toInt * (x.toInt / d.toInt) := Int.mul_nonneg (Int.le_of_lt hd) a
  have m0 := Int.mul_ediv_add_emod x.toInt d.toInt
  have m1 := Int.emod_nonneg x.toInt (show d.toInt ≠ 0 by omega)
  have m2 := Int.emod_lt_of_pos x.toInt hd
  have e1 := tq_mul (x / d) d
  rw [q, Int.mul_comm (x.toInt / d.toInt) d.toInt] at e1
  generalize hY : d.toInt * (x.toInt / d.toInt) = Y at e1 m0 y0
  generalize hM : x.toInt % d.toInt = M at m0 m1 m2
  have e2 := nw e1 (by omega)
  have e3 := nw (tq_sub x (x / d * d)) (by omega)
  omega
theorem mod_s {a n : Int} (h1 : 0 ≤ a) (h2 : a < 2 * n) : (a < n ∧ a % n = a) ∨ (n ≤ a ∧ a % n = a - n) := by
  by_cases h : a < n
  · exact Or.inl ⟨h, Int.emod_eq_of_lt h1 h⟩
  · refine Or.inr ⟨by omega, ?_⟩
    have e : a % n = (a - n) % n := (Int.sub_emod_right a n).symm
    rw [e]
    exact Int.emod_eq_of_lt (by omega) (by omega)
theorem wq_X7_on {post : Int32 → Prop} {x0 x1 x2 : Int32} (h : 1 ≤ x2.toInt ∧ x2.toInt ≤ 40) (h0 : 0 ≤ x0.toInt ∧ x0.toInt < x2.toInt) (h1 : 0 ≤ x1.toInt ∧ x1.toInt < x2.toInt) (k : ∀ r : Int32, (x0.toInt ≤ x1.toInt ∧ r.toInt = x1.toInt - x0.toInt) ∨ (x1.toInt < x0.toInt ∧ r.toInt = x1.toInt - x0.toInt + x2.toInt) → post r) : wp_X7_on post x0 x1 x2 := by
  unfold wp_X7_on
  have e0 : (0 : Int32).toInt = 0 := rfl
  have e1 := nw (tq_sub x1 x0) (by omega)
  have e2 := nw (tq_add (x1 - x0) x2) (by omega)
  have e3 := rem_p (x := (x1 - x0) + x2) (d := x2) (by omega) (by omega)
  have e4 := mod_s (a := ((x1 - x0) + x2).toInt) (n := x2.toInt) (by omega) (by omega)
  exact ⟨z_ne (by omega), k _ (by omega)⟩
theorem wq_X7_leftOf {post : Int32 → Prop} {s0 : Md} {x1 : Int32} {N R W D : Int} (h100040 : mb (N) (R) (W) (D) s0) (h100041 : 0 ≤ (x1).toInt ∧ (x1).toInt < 40) (h100042 : 0 < D) (k : ∀ (r : Int32), (r).toInt = lf_c ((s0.2.2.1 0)) x1 → 0 ≤ (r).toInt ∧ (r).toInt ≤ 39 → post r) : wp_X7_leftOf post s0 x1 := by
  unfold wp_X7_leftOf
  have := h100040.1
  have := h100040.2.1
  have := h100040.2.2.1
  have := h100040.2.2.2.1
  have p100043 : 0 ≤ (x1).toInt ∧ (x1).toInt < 40 := by omega
  refine wq_X7_of_2 h100040 p100043 (fun r_1 q100044 q100045 => ?_)
  have p100046 : 0 ≤ (x1).toInt ∧ (x1).toInt < 40 := by omega
  refine wq_X7_of_3 h100040 p100046 (fun r_3 q100047 q100048 => ?_)
  have p100049 : 0 ≤ (x1).toInt ∧ (x1).toInt < 40 := by omega
  refine wq_X7_flaps h100040 p100049 (fun r_5 q100050 => ?_)
  have p100051 : 1 ≤ (r_5).toInt ∧ (r_5).toInt ≤ 40 := by omega
  have p100052 : 0 ≤ (r_1).toInt ∧ (r_1).toInt < (r_5).toInt := by omega
  have p100053 : 0 ≤ (r_3).toInt ∧ (r_3).toInt < (r_5).toInt := by omega
  refine wq_X7_on p100051 p100052 p100053 (fun r_7 q100054 => ?_)
  have := lf_d (s0.2.2.1 0) x1
  have p100055 : (r_7).toInt = lf_c ((s0.2.2.1 0)) x1 := by omega
  have p100056 : 0 ≤ (r_7).toInt ∧ (r_7).toInt ≤ 39 := by omega
  exact k _ p100055 p100056
theorem wq_X7_bits_L4 {post : Int32 → Prop} {e32 : Int64 → Int32 → Int32 → Prop} (ke32 : ∀ (w0 : Int64) (z2 : Int32) (z3 : Int32), 0 ≤ (z3).toInt ∧ (z3).toInt ≤ 64 → e32 w0 z2 z3) : ∀ (n : Nat) (w0 : Int64) (z2 : Int32) (z3 : Int32), 0 ≤ (z3).toInt ∧ (z3).toInt ≤ 64 → 64 - (z3).toInt < (n : Int) → wp_X7_bits_L4 post e32 n w0 z2 z3 := by
  intro n
  induction n with
  | zero =>
    intro w0 z2 z3 i100057 i100058
    exfalso
    omega
  | succ n ih =>
    intro w0 z2 z3 i100057 i100058
    unfold wp_X7_bits_L4
    refine ⟨fun c100059 => ?_, fun c100060 => ?_⟩
    · replace c100059 := q_le c100059
      rw [li_64] at c100059
      have p100061 : 0 ≤ (z3).toInt ∧ (z3).toInt ≤ 64 := by omega
      exact ke32 _ _ _ p100061
    · replace c100060 := q_nle c100060
      rw [li_64] at c100060
      refine wq_X7_isIn (fun r_2 q100062 => ?_)
      refine ⟨fun c100063 => ?_, fun c100064 => ?_⟩
      · replace c100063 := q_eq c100063
        rw [li_0] at c100063
        have e100065 := tq_addr li_1 z3
        try rw [Int.emod_eq_of_lt (show 0 ≤ (z3).toInt + 1 + 2147483648 by omega) (show (z3).toInt + 1 + 2147483648 < 4294967296 by omega)] at e100065
        have p100066 : 0 ≤ (z3 + 1).toInt ∧ (z3 + 1).toInt ≤ 64 := by omega
        have p100067 : 64 - (z3 + 1).toInt < ((n : Nat) : Int) := by (omega)
        exact ih _ _ _ p100066 p100067
      · replace c100064 := q_neq c100064
        rw [li_0] at c100064
        have e100068 := tq_addr li_1 z3
        try rw [Int.emod_eq_of_lt (show 0 ≤ (z3).toInt + 1 + 2147483648 by omega) (show (z3).toInt + 1 + 2147483648 < 4294967296 by omega)] at e100068
        have p100069 : 0 ≤ (z3 + 1).toInt ∧ (z3 + 1).toInt ≤ 64 := by omega
        have p100070 : 64 - (z3 + 1).toInt < ((n : Nat) : Int) := by (omega)
        exact ih _ _ _ p100069 p100070
theorem wq_X7_bits {post : Int32 → Prop} {y0 : Int64} (k : ∀ (r : Int32), post r) : wp_X7_bits post y0 := by
  unfold wp_X7_bits
  have p100071 : 0 ≤ (0 : Int32).toInt ∧ (0 : Int32).toInt ≤ 64 := by (have := li_0; omega)
  obtain ⟨f100072, g100073⟩ := fu_e 100
  have p100074 : 64 - (0 : Int32).toInt < (f100072 : Int) := by (have := li_0; omega)
  refine ⟨f100072, wq_X7_bits_L4 (fun w0 z2 z3 q100075 => ?_) f100072 _ _ _ p100071 p100074⟩
  exact k _
theorem c_at {f : Nat → Int64} {c j : Nat} {v : Int64} : c_f (vp_updL f (176 + 8 * c + j) v) c j = v.toInt := by
  unfold c_f
  rw [ul_at]
theorem c_ne {f : Nat → Int64} {c j i : Nat} {v : Int64} (h : ¬ 176 + 8 * c + j = i) : c_f (vp_updL f i v) c j = c_f f c j := by
  unfold c_f
  rw [ul_ne h]
theorem d_ne {f : Nat → Int64} {d i : Nat} {v : Int64} (h : ¬ 8 + 42 * d + 1 = i) : d_f (vp_updL f i v) d = d_f f d := by
  unfold d_f
  rw [ul_ne h]
def st_i (n sh be lo sh2 be2 lo2 : Int) : Prop := (0 < lo ∧ sh2 = sh ∧ lo2 = lo - 1 ∧ ((be + 1 < n ∧ be2 = be + 1) ∨ (n ≤ be + 1 ∧ be2 = 0))) ∨ (lo = 0 ∧ lo2 = 0 ∧ ((n ≤ sh + 1 ∧ sh2 = 0 ∧ be2 = 0) ∨ (sh + 1 < n ∧ sh2 = sh + 1 ∧ ((be + 1 < n ∧ be2 = be + 1) ∨ (n ≤ be + 1 ∧ be2 = 0)))))
def st_r (f g : Nat → Int64) (c : Nat) : Prop := (∀ i, rw_rel i → ¬ (176 + 8 * c ≤ i ∧ i < 176 + 8 * c + 8) → g i = f i) ∧ c_f g c 0 = c_f f c 0 ∧ c_f g c 3 = c_f f c 3 ∧ st_i (d_f f (c_f f c 0).toNat) (c_f f c 1) (c_f f c 2) (c_f f c 4) (c_f g c 1) (c_f g c 2) (c_f g c 4)
theorem inc_m {r n : Int32} (h : 0 ≤ r.toInt ∧ r.toInt < n.toInt ∧ n.toInt ≤ 40) : (r.toInt + 1 < n.toInt ∧ (Int32.toInt64 ((r + 1) - (r + 1) / n * n)).toInt = r.toInt + 1) ∨ (n.toInt ≤ r.toInt + 1 ∧ (Int32.toInt64 ((r + 1) - (r + 1) / n * n)).toInt = 0) := by
  have a : (1 : Int32).toInt = 1 := rfl
  have e1 := nw (tq_addr a r) (by omega)
  have e2 := rem_p (x := r + 1) (d := n) (by omega) (by omega)
  have e3 := mod_s (a := (r + 1).toInt) (n := n.toInt) (by omega) (by omega)
  rw [tq_64]
  omega
theorem mb_6 {N R W D : Int} {s : Md} {i : Nat} {v : Int64} (h : mb N R W D s) (hi : ¬ rw_rel i) : mb N R W D (s.1, s.2.1, (va_up s.2.2.1 0 (vp_updL (s.2.2.1 0) i v)), s.2.2.2) := mb_now h rfl (fun k hk => by
  show (if k = 0 then _ else s.2.2.1 k) = _
  rw [if_neg hk]) rfl (rw_irr h.2.2.2.2.1 hi)
theorem wq_X7_steps {post : Md → Prop} {s0 : Md} {x1 : Int32} {N R W D : Int} (h : mb N R W D s0) (hx : 0 ≤ x1.toInt ∧ x1.toInt < 40) (hD : 0 < D) (k : ∀ u : Md, mb N R W D u → ie [] u.1 s0.1 → u.2.1 = s0.2.1 ∧ u.2.2.2 = s0.2.2.2 → st_r (s0.2.2.1 0) (u.2.2.1 0) x1.toInt.toNat → post u) : wp_X7_steps post s0 x1 := by
  unfold wp_X7_steps
  have e0 : (0 : Int32).toInt = 0 := rfl
  have e1 : (1 : Int32).toInt = 1 := rfl
  have hk := rw_k h.2.2.2.2.1 hx
  have hr6 : ¬ rw_rel (Int32.toNatClampNeg 6) := by
    unfold rw_rel
    decide
  have hr7 : ¬ rw_rel (Int32.toNatClampNeg 7) := by
    unfold rw_rel
    decide
  have n6 : Int32.toNatClampNeg 6 = 6 := rfl
  have n7 : Int32.toNatClampNeg 7 = 7 := rfl
  refine wq_X7_of_2 h hx (fun r1 a1 b1 => wq_X7_flaps h hx (fun r3 a3 => ⟨z_ne (by omega), ?_⟩))
  have i1 := inc_m (r := r1) (n := r3) (by omega)
  refine wq_X7_sets_2 h hx (by omega) (fun u7 h7 j7 x7 => ?_)
  refine wq_X7_of_g h7 hx (by decide) (fun r8 => ?_)
  refine wq_X7_sets_5 h7 hx (fun u11 h11 j11 x11 => ?_)
  generalize hv1 : Int32.toInt64 ((r1 + 1) - (r1 + 1) / r3 * r3) = v1 at i1 x7
  generalize Int32.toInt64 (r8 + 1) = v2 at x11
  have hT := mb_6 (v := (((u11.2.2.1 0) (Int32.toNatClampNeg 6)) + 1)) h11 hr6
  generalize hv3 : (((u11.2.2.1 0) (Int32.toNatClampNeg 6)) + 1) = v3 at hT
  -- the row so far
  have row : ∃ gT : Nat → Int64, gT = vp_updL (u11.2.2.1 0) (Int32.toNatClampNeg 6) v3 := ⟨_, rfl⟩
  obtain ⟨gT, hgT⟩ := row
  generalize hTt : ((u11.1, u11.2.1, (va_up u11.2.2.1 0 (vp_updL (u11.2.2.1 0) (Int32.toNatClampNeg 6) v3)), u11.2.2.2) : Md) = T at hT ⊢
  have T1 : T.1 = u11.1 := by rw [← hTt]
  have T2 : T.2.1 = u11.2.1 := by rw [← hTt]
  have T3 : T.2.2.2 = u11.2.2.2 := by rw [← hTt]
  have eT : T.2.2.1 0 = gT := by
    rw [← hTt, hgT]
    rfl
  rw [x11.2.2, x7.2.2, n6] at hgT
  have c0 : c_f gT x1.toInt.toNat 0 = cw (s0.2.2.1 0) x1 0 := by
    rw [hgT, c_ne (by omega), c_ne (by omega), c_ne (by omega)]
    rfl
  have c1 : c_f gT x1.toInt.toNat 1 = cw (s0.2.2.1 0) x1 1 := by
    rw [hgT, c_ne (by omega), c_ne (by omega), c_ne (by omega)]
    rfl
  have c2 : c_f gT x1.toInt.toNat 2 = v1.toInt := by
    rw [hgT, c_ne (by omega), c_ne (by omega), c_at]
  have c3 : c_f gT x1.toInt.toNat 3 = cw (s0.2.2.1 0) x1 3 := by
    rw [hgT, c_ne (by omega), c_ne (by omega), c_ne (by omega)]
    rfl
  have c4 : c_f gT x1.toInt.toNat 4 = cw (s0.2.2.1 0) x1 4 := by
    rw [hgT, c_ne (by omega), c_ne (by omega), c_ne (by omega)]
    rfl
  have cd : fl_c gT x1 = fl_c (s0.2.2.1 0) x1 := by
    unfold fl_c
    rw [c0]
    have l := hk.1
    unfold cw at l
    rw [hgT, d_ne (by omega), d_ne (by unfold cw; omega), d_ne (by unfold cw; omega)]
    rfl
  have out : ∀ i, rw_rel i → ¬ (176 + 8 * x1.toInt.toNat ≤ i ∧ i < 176 + 8 * x1.toInt.toNat + 8) → gT i = s0.2.2.1 0 i := fun i hi hn => by
    have n6i : ¬ i = 6 := fun e => hr6 (by rw [n6, ← e]; exact hi)
    rw [hgT, ul_ne n6i, ul_ne (by omega), ul_ne (by omega)]
  have p2 : ∀ q : Md, q.2.1 = T.2.1 → q.2.1 = s0.2.1 := fun q e => e.trans (T2.trans (x11.1.trans x7.1))
  have p3 : ∀ q : Md, q.2.2.2 = T.2.2.2 → q.2.2.2 = s0.2.2.2 := fun q e => e.trans (T3.trans (x11.2.1.trans x7.2.1))
  have p1 : ∀ q : Md, ie [] q.1 T.1 → ie [] q.1 s0.1 := fun q e => ie_tr e (by decide) (ie_tr (T1 ▸ j11) (by decide) j7)
  refine wq_X7_of_4 hT hx (fun r12 a12 b12 => ⟨fun g => ?_, fun g => ?_⟩)
  · have g2 := q_le g
    refine wq_X7_of_1 hT hx (fun r15 a15 b15 => wq_X7_flaps hT hx (fun r17 a17 => ⟨z_ne (by omega), ?_⟩))
    rw [eT] at a12 a15 a17 b15
    unfold cw at a12 a15
    rw [c4] at a12
    rw [c1] at a15
    rw [cd] at a17 b15
    have i2 := inc_m (r := r15) (n := r17) (by omega)
    refine wq_X7_sets_1 hT hx (by rw [eT, cd]; omega) (fun u21 h21 j21 x21 => ?_)
    generalize hv4 : Int32.toInt64 ((r15 + 1) - (r15 + 1) / r17 * r17) = v4 at i2 x21
    have x21r := x21.2.2
    rw [eT] at x21r
    have s0' : c_f (u21.2.2.1 0) x1.toInt.toNat 0 = cw (s0.2.2.1 0) x1 0 := by rw [x21r, c_ne (by omega), c0]
    have s1' : c_f (u21.2.2.1 0) x1.toInt.toNat 1 = v4.toInt := by rw [x21r, c_at]
    have s2' : c_f (u21.2.2.1 0) x1.toInt.toNat 2 = v1.toInt := by rw [x21r, c_ne (by omega), c2]
    have s3' : c_f (u21.2.2.1 0) x1.toInt.toNat 3 = cw (s0.2.2.1 0) x1 3 := by rw [x21r, c_ne (by omega), c3]
    have s4' : c_f (u21.2.2.1 0) x1.toInt.toNat 4 = cw (s0.2.2.1 0) x1 4 := by rw [x21r, c_ne (by omega), c4]
    have out2 : ∀ i, rw_rel i → ¬ (176 + 8 * x1.toInt.toNat ≤ i ∧ i < 176 + 8 * x1.toInt.toNat + 8) → u21.2.2.1 0 i = s0.2.2.1 0 i := fun i hi hn => by
      rw [x21r, ul_ne (by omega)]
      exact out i hi hn
    refine wq_X7_of_1 h21 hx (fun r22 a22 b22 => ⟨fun g => ?_, fun g => ?_⟩)
    · have g3 := q_eq g
      unfold cw at a22
      rw [s1'] at a22
      refine wq_X7_of_g h21 hx (by decide) (fun r25 => ?_)
      refine wq_X7_sets_6 h21 hx (fun u28 h28 j28 x28 => ?_)
      generalize Int32.toInt64 (r25 + ((r1 + 1) - (r1 + 1) / r3 * r3)) = v5 at x28
      have hT7 := mb_6 (v := (((u28.2.2.1 0) (Int32.toNatClampNeg 7)) + v1)) h28 hr7
      have f0 : fl_c (s0.2.2.1 0) x1 = fl_c (s0.2.2.1 0) x1 := rfl
      have l0 : (0 : Int64).toInt = 0 := rfl
      refine wq_X7_sets_2 hT7 hx ⟨by decide, Or.inr ⟨hD, ?_⟩⟩ (fun u30 h30 j30 x30 => ?_)
      · have q := rw_k hT7.2.2.2.2.1 hx
        rw [l0]
        omega
      · have x30r : u30.2.2.1 0 = vp_updL (vp_updL (u28.2.2.1 0) 7 (((u28.2.2.1 0) (Int32.toNatClampNeg 7)) + v1)) (176 + 8 * x1.toInt.toNat + 2) 0 := x30.2.2
        generalize (((u28.2.2.1 0) (Int32.toNatClampNeg 7)) + v1) = v6 at x30r
        rw [x28.2.2] at x30r
        refine k u30 h30 (p1 u30 (ie_tr j30 (by decide) (ie_tr j28 (by decide) j21))) ⟨p2 u30 (x30.1.trans (x28.1.trans x21.1)), p3 u30 (x30.2.1.trans (x28.2.1.trans x21.2.1))⟩ ⟨fun i hi hn => ?_, ?_, ?_, ?_⟩
        · have n7i : ¬ i = 7 := fun e => hr7 (by rw [n7, ← e]; exact hi)
          rw [x30r, ul_ne (by omega), ul_ne n7i, ul_ne (by omega)]
          exact out2 i hi hn
        · rw [x30r, c_ne (by omega), c_ne (by omega), c_ne (by omega), s0']
          rfl
        · rw [x30r, c_ne (by omega), c_ne (by omega), c_ne (by omega), s3']
          rfl
        · have t1 : c_f (u30.2.2.1 0) x1.toInt.toNat 1 = v4.toInt := by rw [x30r, c_ne (by omega), c_ne (by omega), c_ne (by omega), s1']
          have t2 : c_f (u30.2.2.1 0) x1.toInt.toNat 2 = 0 := by
            rw [x30r, c_at]
            rfl
          have t4 : c_f (u30.2.2.1 0) x1.toInt.toNat 4 = cw (s0.2.2.1 0) x1 4 := by rw [x30r, c_ne (by omega), c_ne (by omega), c_ne (by omega), s4']
          show st_i (fl_c (s0.2.2.1 0) x1) (cw (s0.2.2.1 0) x1 1) (cw (s0.2.2.1 0) x1 2) (cw (s0.2.2.1 0) x1 4) _ _ _
          rw [t1, t2, t4]
          unfold st_i
          right
          omega
    · have g3 := q_neq g
      unfold cw at a22
      rw [s1'] at a22
      refine k u21 h21 (p1 u21 j21) ⟨p2 u21 x21.1, p3 u21 x21.2.1⟩ ⟨out2, s0', s3', ?_⟩
      show st_i (fl_c (s0.2.2.1 0) x1) (cw (s0.2.2.1 0) x1 1) (cw (s0.2.2.1 0) x1 2) (cw (s0.2.2.1 0) x1 4) _ _ _
      rw [s1', s2', s4']
      unfold st_i
      right
      omega
  · have g2 := q_nle g
    refine wq_X7_of_4 hT hx (fun r31 a31 b31 => ?_)
    rw [eT] at a12 a31
    unfold cw at a12 a31
    rw [c4] at a12 a31
    have m1 := nw (tq_subr e1 r31) (by omega)
    have m2 := tq_64 (r31 - 1)
    refine wq_X7_sets_4 hT hx (by omega) (fun u34 h34 j34 x34 => ?_)
    have x34r := x34.2.2
    rw [eT] at x34r
    refine k u34 h34 (p1 u34 j34) ⟨p2 u34 x34.1, p3 u34 x34.2.1⟩ ⟨fun i hi hn => ?_, ?_, ?_, ?_⟩
    · rw [x34r, ul_ne (by omega)]
      exact out i hi hn
    · rw [x34r, c_ne (by omega), c0]
      rfl
    · rw [x34r, c_ne (by omega), c3]
      rfl
    · have t1 : c_f (u34.2.2.1 0) x1.toInt.toNat 1 = cw (s0.2.2.1 0) x1 1 := by rw [x34r, c_ne (by omega), c1]
      have t2 : c_f (u34.2.2.1 0) x1.toInt.toNat 2 = v1.toInt := by rw [x34r, c_ne (by omega), c2]
      have t4 : c_f (u34.2.2.1 0) x1.toInt.toNat 4 = (Int32.toInt64 (r31 - 1)).toInt := by rw [x34r, c_at]
      show st_i (fl_c (s0.2.2.1 0) x1) (cw (s0.2.2.1 0) x1 1) (cw (s0.2.2.1 0) x1 2) (cw (s0.2.2.1 0) x1 4) _ _ _
      rw [t1, t2, t4]
      unfold st_i
      left
      omega
