/-! A tick of the class: the chosen cells make a step each. -/
def Fc (f : Nat → Int64) (c : Nat) : Int32 := Int64.toInt32 (f (8 + 42 * (c_f f c 0).toNat + 1))
theorem Fc_e {f : Nat → Int64} {R W D : Int} {c : Nat} (hf : rw_ok R W D f) (hD : 0 < D) (hc : (c : Int) < R * W) : (Fc f c).toInt = flF f c := by
  obtain ⟨q0, q1, q2, q3, q4, q5⟩ := cl_f (c := c) hf hD hc
  unfold Fc
  rw [t32 (by unfold d_f at q1; omega)]
  rfl
def sw (f : Nat → Int64) (c : Nat) : Int32 × Int32 × Int32 × Int32 := ST (Fc f c) (Int64.toInt32 (f (176 + 8 * c + 1))) (Int64.toInt32 (f (176 + 8 * c + 2))) (Int64.toInt32 (f (176 + 8 * c + 4)))
theorem e0_flC {P : Int32 → Prop} {s b : Bd} {x : Int32} (k0 : s.1 = b.1) (k1 : s.2.1 1 = b.2.1 1) (k3 : s.2.1 3 = b.2.1 3) (h : wp_X0_flapsOf P s x) : wp_X0_flapsOf P b x := by
  unfold wp_X0_flapsOf at h ⊢
  rw [k0, k1, k3] at h
  exact h
theorem e0_stepC {P : Int32 → Bd → Prop} {s b : Bd} {f : Nat → Int64} {x : Int32} {R W D : Int} (hf : rw_ok R W D f) (hD : 0 < D) (hB : RB b f) (k0 : s.1 = b.1) (k1 : s.2.1 1 = b.2.1 1) (k3 : s.2.1 3 = b.2.1 3) (hc : ∀ j, s.2.1 j x.toInt.toNat = b.2.1 j x.toInt.toNat) (h0 : 0 ≤ x.toInt) (h1 : x.toInt < R * W) (h : wp_X0_stepOn P s x) : ∃ u, P (sw f x.toInt.toNat).2.2.2 u ∧ u.1 = s.1 ∧ u.2.2.1 = s.2.2.1 ∧ (∀ j, j < 4 ∨ j = 6 → u.2.1 j = s.2.1 j) ∧ (∀ j i, ¬ i = x.toInt.toNat → u.2.1 j i = s.2.1 j i) ∧ u.2.1 4 x.toInt.toNat = (sw f x.toInt.toNat).1 ∧ u.2.1 5 x.toInt.toNat = (sw f x.toInt.toNat).2.1 ∧ u.2.1 7 x.toInt.toNat = (sw f x.toInt.toNat).2.2.1 ∧ u.2.1 8 x.toInt.toNat = b.2.1 8 x.toInt.toNat + 1 ∧ u.2.1 9 x.toInt.toNat = b.2.1 9 x.toInt.toNat + (sw f x.toInt.toNat).2.2.2 := by
  have at_ := RB_x (c := x.toInt.toNat) hf hB (by omega)
  unfold wp_X0_stepOn at h
  obtain ⟨F, h, eF, _⟩ := e0_flF hf hD hB h0 h1 (e0_flC k0 k1 k3 h)
  have eF : F = Fc f x.toInt.toNat := Int32.toInt_inj.mp (eF.trans (Fc_e hf hD (by omega)).symm)
  subst eF
  have es : sw f x.toInt.toNat = ST (Fc f x.toInt.toNat) (s.2.1 4 x.toInt.toNat) (s.2.1 5 x.toInt.toNat) (s.2.1 7 x.toInt.toNat) := by
    unfold sw
    rw [hc 4, hc 5, hc 7, at_.2.1, at_.2.2.1, at_.2.2.2.2.1]
  rw [es, ← hc 8, ← hc 9]
  generalize Fc f x.toInt.toNat = F at *
  have h := (bh_e h.2).2
  rw [tn_i] at h
  have vu : ∀ {a : Nat → Nat → Int32} {k j i : Nat} {y : Int32}, ¬ i = x.toInt.toNat → (∀ j, a j i = s.2.1 j i) → va_up a k (upd (s.2.1 k) x.toInt.toNat y) j i = s.2.1 j i := by
    intro a k j i y hi ha
    by_cases e : j = k
    · subst e
      rw [va_up_self]
      exact up_n hi
    · rw [va_n e]
      exact ha j
  by_cases c : s.2.1 7 x.toInt.toNat ≤ 0
  · have h := (bh_e (h.1 c).2).2.2
    have ue : upd (s.2.1 4) x.toInt.toNat (bh (s.2.1 4 x.toInt.toNat) F) x.toInt.toNat = bh (s.2.1 4 x.toInt.toNat) F := up_e
    rw [ue] at h
    unfold ST
    rw [if_pos c]
    by_cases c2 : bh (s.2.1 4 x.toInt.toNat) F = 0
    · rw [if_pos c2]
      refine ⟨_, (h.2 c2).2.2.2.2.2, rfl, rfl, fun j hj => ?_, fun j i hi => ?_, ?_, up_e, rfl, up_e, up_e⟩
      · show va_up _ _ _ j = _
        rw [va_n (by omega), va_n (by omega), va_n (by omega), va_n (by omega)]
      · exact vu hi (fun j => vu hi (fun j => vu hi (fun j => vu hi (fun j => rfl))))
      · exact ue.trans c2
    · rw [if_neg c2]
      refine ⟨_, (h.1 c2).2.2.2.2.2, rfl, rfl, fun j hj => ?_, fun j i hi => ?_, up_e, up_e, rfl, up_e, up_e⟩
      · show va_up _ _ _ j = _
        rw [va_n (by omega), va_n (by omega), va_n (by omega), va_n (by omega)]
      · exact vu hi (fun j => vu hi (fun j => vu hi (fun j => vu hi (fun j => rfl))))
  · have h := (h.2 c).2.2.2.2.2.2.2
    unfold ST
    rw [if_neg c]
    refine ⟨_, h, rfl, rfl, fun j hj => ?_, fun j i hi => ?_, rfl, up_e, up_e, up_e, up_e⟩
    · show va_up _ _ _ j = _
      rw [va_n (by omega), va_n (by omega), va_n (by omega), va_n (by omega)]
    · exact vu hi (fun j => vu hi (fun j => vu hi (fun j => vu hi (fun j => rfl))))
def KS (f : Nat → Int64) (b s : Bd) (c : Nat) : Prop := s.2.1 4 c = (sw f c).1 ∧ s.2.1 5 c = (sw f c).2.1 ∧ s.2.1 7 c = (sw f c).2.2.1 ∧ s.2.1 8 c = b.2.1 8 c + 1 ∧ s.2.1 9 c = b.2.1 9 c + (sw f c).2.2.2
def CV (f : Nat → Int64) (b s : Bd) (T : Nat → Bool) : Prop := s.1 = b.1 ∧ s.2.2.1 = b.2.2.1 ∧ (∀ j, j < 4 ∨ j = 6 → s.2.1 j = b.2.1 j) ∧ ∀ c, (T c = true → KS f b s c) ∧ (T c = false → ∀ j, s.2.1 j c = b.2.1 j c)
/-- what is found by all of T below n -/
def fs (g : Nat → Int32) (T : Nat → Bool) : Nat → Int32
  | 0 => 0
  | n + 1 => fs g T n + (if T n then g n else 0)
theorem fs_ad {g : Nat → Int32} {T : Nat → Bool} {c : Nat} (hc : T c = false) : ∀ n, fs g (ad T c) n = fs g T n + (if c < n then g c else 0) := by
  intro n
  induction n with
  | zero => exact (Int32.add_zero _).symm
  | succ n ih =>
    show fs g (ad T c) n + (if ad T c n then g n else 0) = fs g T n + (if T n then g n else 0) + _
    rw [ih]
    by_cases e : n = c
    · subst e
      have a1 : ad T n n = true := by unfold ad; rw [decide_eq_true rfl, Bool.or_true]
      rw [if_neg (Nat.lt_irrefl n), if_pos (Nat.lt_succ_self n), a1, hc, if_pos rfl, if_neg (by decide), Int32.add_zero]
    · have a1 : ad T c n = T n := by unfold ad; rw [decide_eq_false e, Bool.or_false]
      rw [a1]
      by_cases l : c < n
      · rw [if_pos l, if_pos (show c < n + 1 by omega), Int32.add_assoc, Int32.add_comm (g c), ← Int32.add_assoc]
      · rw [if_neg l, if_neg (show ¬ c < n + 1 by omega), Int32.add_zero, Int32.add_zero]
theorem e2_turn_L {f : Nat → Int64} {b : Bd} {u : Mo} {T : Nat → Bool} {R W D : Int} {z2 z3 : Int32} {post : Mo → Bd → Prop} {e : Mo → Bd → Int32 → Int32 → Int32 → Prop} (hf : rw_ok R W D f) (hD : 0 < D) (hB : RB b f) (hT : CHS T u) (hm : (u.1 0).toInt ≤ 40) (hn : ∀ i, T i = true → (i : Int) < R * W) : ∀ (n : Nat) (t0 : Mo) (t1 : Bd) (z4 : Int32) (S : Nat → Bool), t0.2 = u.2 → (∀ i, ¬ i = 8 → t0.1 i = u.1 i) → 0 ≤ z4.toInt → z4.toInt ≤ (u.1 0).toInt → CV f b t1 S → t0.1 8 = u.1 8 + fs (fun c => (sw f c).2.2.2) S (R * W).toNat → (∀ i, S i = true ↔ ∃ j : Nat, (j : Int) < z4.toInt ∧ (u.2 2 j).toInt = (i : Int)) → wp_X2_turn_L27 post e n t0 t1 z2 z3 z4 → ∃ t0' t1' z4', e t0' t1' z2 z3 z4' ∧ t0'.2 = u.2 ∧ (∀ i, ¬ i = 8 → t0'.1 i = u.1 i) ∧ CV f b t1' T ∧ t0'.1 8 = u.1 8 + fs (fun c => (sw f c).2.2.2) T (R * W).toNat := by
  have hR := hf.2.2.2.2.2.1
  have e1 : (1 : Int32).toInt = 1 := rfl
  intro n
  induction n with
  | zero =>
    intro t0 t1 z4 S _ _ _ _ _ _ _ h
    exact (show False from h).elim
  | succ n ih =>
    intro t0 t1 z4 S a1 a2 a3 a4 a5 a6 a7 h
    unfold wp_X2_turn_L27 at h
    obtain ⟨t1a, t1b, t1c, t1d⟩ := id hT
    have k0 : t0.1 0 = u.1 0 := a2 0 (by decide)
    rw [k0] at h
    by_cases c : u.1 0 ≤ z4
    · have := q_le c
      have eS : S = T := by
        funext i
        cases q : T i with
        | true =>
          obtain ⟨j, j1, j2⟩ := t1c i q
          exact (a7 i).mpr ⟨j, by omega, j2⟩
        | false =>
          cases w : S i with
          | false => rfl
          | true =>
            obtain ⟨j, j1, j2⟩ := (a7 i).mp w
            have := (t1b j (by omega)).2
            rw [j2, Int.toNat_natCast, q] at this
            cases this
      rw [eS] at a5 a6
      exact ⟨t0, t1, z4, h.1 c, a1, a2, a5, a6⟩
    · have := q_nle c
      have h := (h.2 c).2
      rw [tn_i, a1] at h
      obtain ⟨x0, xT⟩ := t1b z4.toInt.toNat (by omega)
      have xn := hn _ xT
      have fS : S (u.2 2 z4.toInt.toNat).toInt.toNat = false := by
        cases w : S (u.2 2 z4.toInt.toNat).toInt.toNat with
        | false => rfl
        | true =>
          exfalso
          obtain ⟨j, j1, j2⟩ := (a7 _).mp w
          refine t1d j z4.toInt.toNat (by omega) (by omega) (Int32.toInt_inj.mp ?_)
          omega
      obtain ⟨b1, b2, b3, b4⟩ := id a5
      have a := nw (tq_addr e1 z4) (by omega)
      obtain ⟨w, h, g1, g2, g3, g4, g5, g6, g7, g8, g9⟩ := e0_stepC (b := b) hf hD hB b1 (b3 1 (by omega)) (b3 3 (by omega)) ((b4 _).2 fS) x0 (by omega) h
      generalize hx : (u.2 2 z4.toInt.toNat).toInt.toNat = x at *
      refine ih ((va_up t0.1 8 (t0.1 8 + (sw f x).2.2.2)), u.2) w (z4 + 1) (ad S x) rfl (fun i hi => ?_) (by omega) (by omega) ⟨g1.trans b1, g2.trans b2, fun j hj => (g3 j hj).trans (b3 j hj), fun c => ⟨fun hc => ?_, fun hc => ?_⟩⟩ ?_ (fun i => ?_) h
      · show va_up t0.1 8 _ i = _
        rw [va_n hi]
        exact a2 i hi
      · by_cases q : c = x
        · subst q
          exact ⟨g5, g6, g7, g8, g9⟩
        · have hc : S c = true := by
            unfold ad at hc
            rw [decide_eq_false q, Bool.or_false] at hc
            exact hc
          obtain ⟨r1, r2, r3, r4, r5⟩ := (b4 c).1 hc
          exact ⟨(g4 4 c q).trans r1, (g4 5 c q).trans r2, (g4 7 c q).trans r3, (g4 8 c q).trans r4, (g4 9 c q).trans r5⟩
      · unfold ad at hc
        rw [Bool.or_eq_false_iff] at hc
        intro j
        exact (g4 j c (of_decide_eq_false hc.2)).trans ((b4 c).2 hc.1 j)
      · show t0.1 8 + (sw f x).2.2.2 = _
        rw [fs_ad fS, if_pos (by omega), a6, Int32.add_assoc]
      · unfold ad
        rw [Bool.or_eq_true, a7 i]
        constructor
        · rintro (⟨j, j1, j2⟩ | q)
          · exact ⟨j, by omega, j2⟩
          · have := of_decide_eq_true q
            exact ⟨z4.toInt.toNat, by omega, by omega⟩
        · rintro ⟨j, j1, j2⟩
          by_cases q : j = z4.toInt.toNat
          · right
            rw [q] at j2
            exact decide_eq_true (by omega)
          · exact Or.inl ⟨j, by omega, j2⟩
