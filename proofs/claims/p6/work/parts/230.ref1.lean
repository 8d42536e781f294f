/-! The reference's row of numbers: what is relevant, what is kept by writing. -/
def c_f (f : Nat → Int64) (c j : Nat) : Int := (f (176 + 8 * c + j)).toInt
def d_f (f : Nat → Int64) (d : Nat) : Int := (f (8 + 42 * d + 1)).toInt
def rw_c (D : Int) (f : Nat → Int64) (c : Nat) : Prop := (0 ≤ c_f f c 0 ∧ c_f f c 0 ≤ 3 ∧ 0 ≤ c_f f c 4 ∧ c_f f c 4 ≤ 9 ∧ 0 ≤ c_f f c 1 ∧ 0 ≤ c_f f c 2 ∧ 0 ≤ c_f f c 3) ∧ (D ≤ 0 → c_f f c 0 = 0 ∧ c_f f c 1 = 0 ∧ c_f f c 2 = 0 ∧ c_f f c 3 = 0) ∧ (0 < D → c_f f c 0 < D ∧ c_f f c 1 < d_f f (c_f f c 0).toNat ∧ c_f f c 2 < d_f f (c_f f c 0).toNat ∧ c_f f c 3 < d_f f (c_f f c 0).toNat)
def rw_ok (R W D : Int) (f : Nat → Int64) : Prop := (f 0).toInt = R ∧ (f 1).toInt = W ∧ (f 3).toInt = D ∧ (D ≤ 0 ∨ 1 ≤ (f 2).toInt) ∧ (0 ≤ (f 2).toInt ∧ (f 2).toInt ≤ 99) ∧ (0 ≤ R ∧ R ≤ 6 ∧ 0 ≤ W ∧ W ≤ 10 ∧ 0 ≤ R * W ∧ R * W ≤ 40 ∧ 0 ≤ D ∧ D ≤ 4 ∧ (D ≤ 0 ∨ 1 ≤ R) ∧ (1 ≤ R ∨ R * W = 0)) ∧ (∀ d : Nat, (d : Int) < D → 2 ≤ d_f f d ∧ d_f f d ≤ 40) ∧ (∀ c : Nat, c < 40 → rw_c D f c)
def rw_rel (i : Nat) : Prop := i < 4 ∨ i = 9 ∨ i = 51 ∨ i = 93 ∨ i = 135 ∨ (176 ≤ i ∧ i < 496 ∧ (i - 176) % 8 ≤ 4)
theorem rw_d {f g : Nat → Int64} (h : ∀ i, rw_rel i → ¬ (176 ≤ i) → g i = f i) {d : Nat} (hd : d < 4) : d_f g d = d_f f d := by
  unfold d_f
  rw [h _ (by unfold rw_rel; omega) (by omega)]
theorem rw_cellG {R W D : Int} {f g : Nat → Int64} {c : Nat} (hf : rw_ok R W D f) (h : ∀ i, rw_rel i → ¬ (176 + 8 * c ≤ i ∧ i < 176 + 8 * c + 8) → g i = f i) (hcell : c < 40 → rw_c D g c) : rw_ok R W D g := by
  have e0 := h 0 (Or.inl (by decide)) (by omega)
  have e1 := h 1 (Or.inl (by decide)) (by omega)
  have e2 := h 2 (Or.inl (by decide)) (by omega)
  have e3 := h 3 (Or.inl (by decide)) (by omega)
  have hd : ∀ d, d < 4 → d_f g d = d_f f d := fun d hd => rw_d (fun i a b => h i a (by omega)) hd
  have hc : ∀ c2 j, c2 < 40 → j ≤ 4 → ¬ c2 = c → c_f g c2 j = c_f f c2 j := fun c2 j h1 h2 h3 => by
    unfold c_f
    rw [h _ (by unfold rw_rel; omega) (by omega)]
  obtain ⟨a0, a1, a2, a3, a4, a5, a6, a7⟩ := hf
  refine ⟨by rw [e0]; exact a0, by rw [e1]; exact a1, by rw [e3]; exact a2, by rw [e2]; exact a3, by rw [e2]; exact a4, a5, fun d hD => ?_, fun c2 hc2 => ?_⟩
  · rw [hd d (by omega)]
    exact a6 d hD
  · by_cases e : c2 = c
    · subst e
      exact hcell hc2
    · have q := a7 c2 hc2
      unfold rw_c at q ⊢
      rw [hc c2 0 hc2 (by omega) e, hc c2 1 hc2 (by omega) e, hc c2 2 hc2 (by omega) e, hc c2 3 hc2 (by omega) e, hc c2 4 hc2 (by omega) e]
      have l : (c_f f c2 0).toNat < 4 := by omega
      rw [hd _ l]
      exact q
theorem rw_congr {R W D : Int} {f g : Nat → Int64} (hf : rw_ok R W D f) (h : ∀ i, rw_rel i → g i = f i) : rw_ok R W D g := rw_cellG (c := 40) hf (fun i a _ => h i a) (fun l => absurd l (by decide))
theorem ul_at {f : Nat → Int64} {i : Nat} {v : Int64} : vp_updL f i v i = v := by
  unfold vp_updL
  rw [if_pos rfl]
theorem ul_ne {f : Nat → Int64} {i j : Nat} {v : Int64} (h : ¬ j = i) : vp_updL f i v j = f j := by
  unfold vp_updL
  rw [if_neg h]
theorem rw_irr {R W D : Int} {f : Nat → Int64} {i : Nat} {v : Int64} (hf : rw_ok R W D f) (hi : ¬ rw_rel i) : rw_ok R W D (vp_updL f i v) := rw_congr hf (fun j hj => ul_ne (fun e => hi (e ▸ hj)))
theorem rw_lim {R W D : Int} {f : Nat → Int64} {v : Int64} (hf : rw_ok R W D f) (h : 1 ≤ v.toInt ∧ v.toInt ≤ 99) : rw_ok R W D (vp_updL f 2 v) := by
  obtain ⟨a0, a1, a2, a3, a4, a5, a6, a7⟩ := hf
  have hd : ∀ d, d_f (vp_updL f 2 v) d = d_f f d := fun d => by
    unfold d_f
    rw [ul_ne (by omega)]
  have hc : ∀ c j, c_f (vp_updL f 2 v) c j = c_f f c j := fun c j => by
    unfold c_f
    rw [ul_ne (by omega)]
  refine ⟨by rw [ul_ne (by decide)]; exact a0, by rw [ul_ne (by decide)]; exact a1, by rw [ul_ne (by decide)]; exact a2, by rw [ul_at]; omega, by rw [ul_at]; omega, a5, fun d hD => by rw [hd]; exact a6 d hD, fun c h2 => ?_⟩
  have q := a7 c h2
  unfold rw_c at q ⊢
  rw [hc c 0, hc c 1, hc c 2, hc c 3, hc c 4, hd]
  exact q
theorem rw_sj {R W D : Int} {f : Nat → Int64} {c j : Nat} {v : Int64} (hf : rw_ok R W D f) (hc : c < 40) (hj : 1 ≤ j ∧ j ≤ 3) (h0 : 0 ≤ v.toInt) (h1 : D ≤ 0 → v.toInt = 0) (h2 : 0 < D → v.toInt < d_f f (c_f f c 0).toNat) : rw_ok R W D (vp_updL f (176 + 8 * c + j) v) := by
  refine rw_cellG (c := c) hf (fun i _ b => ul_ne (by omega)) (fun l => ?_)
  have q := hf.2.2.2.2.2.2.2 c l
  have e0 : c_f (vp_updL f (176 + 8 * c + j) v) c 0 = c_f f c 0 := by
    unfold c_f
    rw [ul_ne (by omega)]
  have e4 : c_f (vp_updL f (176 + 8 * c + j) v) c 4 = c_f f c 4 := by
    unfold c_f
    rw [ul_ne (by omega)]
  have ed : d_f (vp_updL f (176 + 8 * c + j) v) (c_f f c 0).toNat = d_f f (c_f f c 0).toNat := by
    have l2 := q.1
    unfold d_f
    rw [ul_ne (by omega)]
  have ej : ∀ k, c_f (vp_updL f (176 + 8 * c + j) v) c k = c_f f c k ∨ (k = j ∧ c_f (vp_updL f (176 + 8 * c + j) v) c k = v.toInt) := fun k => by
    by_cases e : k = j
    · right
      refine ⟨e, ?_⟩
      subst e
      unfold c_f
      rw [ul_at]
    · left
      unfold c_f
      rw [ul_ne (by omega)]
  have g1 := ej 1
  have g2 := ej 2
  have g3 := ej 3
  unfold rw_c at q ⊢
  rw [e0, e4, ed]
  obtain ⟨q1, q2, q3⟩ := q
  refine ⟨by omega, fun hD => ?_, fun hD => ?_⟩
  · have := q2 hD
    have := h1 hD
    omega
  · have := q3 hD
    have := h2 hD
    omega
theorem rw_s4 {R W D : Int} {f : Nat → Int64} {c : Nat} {v : Int64} (hf : rw_ok R W D f) (hc : c < 40) (h0 : 0 ≤ v.toInt ∧ v.toInt ≤ 9) : rw_ok R W D (vp_updL f (176 + 8 * c + 4) v) := by
  refine rw_cellG (c := c) hf (fun i _ b => ul_ne (by omega)) (fun l => ?_)
  have q := hf.2.2.2.2.2.2.2 c l
  have e : ∀ k, ¬ k = 4 → c_f (vp_updL f (176 + 8 * c + 4) v) c k = c_f f c k := fun k hk => by
    unfold c_f
    rw [ul_ne (by omega)]
  have e4 : c_f (vp_updL f (176 + 8 * c + 4) v) c 4 = v.toInt := by
    unfold c_f
    rw [ul_at]
  have ed : d_f (vp_updL f (176 + 8 * c + 4) v) (c_f f c 0).toNat = d_f f (c_f f c 0).toNat := by
    have l2 := q.1
    unfold d_f
    rw [ul_ne (by omega)]
  unfold rw_c at q ⊢
  rw [e 0 (by decide), e 1 (by decide), e 2 (by decide), e 3 (by decide), e4, ed]
  obtain ⟨q1, q2, q3⟩ := q
  exact ⟨by omega, q2, q3⟩
def cw (f : Nat → Int64) (x : Int32) (j : Nat) : Int := c_f f x.toInt.toNat j
def fl_c (f : Nat → Int64) (x : Int32) : Int := d_f f (c_f f x.toInt.toNat 0).toNat
def lf_c (f : Nat → Int64) (x : Int32) : Int := if cw f x 2 ≤ cw f x 3 then cw f x 3 - cw f x 2 else cw f x 3 - cw f x 2 + fl_c f x
theorem lf_d (f : Nat → Int64) (x : Int32) : (cw f x 2 ≤ cw f x 3 ∧ lf_c f x = cw f x 3 - cw f x 2) ∨ (cw f x 3 < cw f x 2 ∧ lf_c f x = cw f x 3 - cw f x 2 + fl_c f x) := by
  unfold lf_c
  by_cases h : cw f x 2 ≤ cw f x 3
  · rw [if_pos h]
    exact Or.inl ⟨h, rfl⟩
  · rw [if_neg h]
    exact Or.inr ⟨by omega, rfl⟩
/-- what is known of a cell -/
theorem rw_k {R W D : Int} {f : Nat → Int64} {x : Int32} (hf : rw_ok R W D f) (hx : 0 ≤ x.toInt ∧ x.toInt < 40) : (0 ≤ cw f x 0 ∧ cw f x 0 ≤ 3 ∧ 0 ≤ cw f x 4 ∧ cw f x 4 ≤ 9 ∧ 0 ≤ cw f x 1 ∧ 0 ≤ cw f x 2 ∧ 0 ≤ cw f x 3) ∧ ((D ≤ 0 ∧ cw f x 0 = 0 ∧ cw f x 1 = 0 ∧ cw f x 2 = 0 ∧ cw f x 3 = 0) ∨ (0 < D ∧ cw f x 0 < D ∧ cw f x 1 < fl_c f x ∧ cw f x 2 < fl_c f x ∧ cw f x 3 < fl_c f x ∧ 2 ≤ fl_c f x ∧ fl_c f x ≤ 40)) := by
  have q := hf.2.2.2.2.2.2.2 x.toInt.toNat (by omega)
  have dd := hf.2.2.2.2.2.2.1
  unfold cw fl_c
  obtain ⟨q1, q2, q3⟩ := q
  refine ⟨q1, ?_⟩
  by_cases h : D ≤ 0
  · have := q2 h
    exact Or.inl ⟨h, this⟩
  · have g := q3 (by omega)
    have g2 := dd (c_f f x.toInt.toNat 0).toNat (by omega)
    exact Or.inr ⟨by omega, g.1, g.2.1, g.2.2.1, g.2.2.2, g2⟩
theorem ix_c {x w : Int32} (hx : 0 ≤ x.toInt ∧ x.toInt < 40) (hw : 0 ≤ w.toInt ∧ w.toInt ≤ 7) : Int32.toNatClampNeg ((176 + (8 * x)) + w) = 176 + 8 * x.toInt.toNat + w.toInt.toNat ∧ ((176 + (8 * x)) + w).toInt = 176 + 8 * x.toInt + w.toInt := by
  have a : (8 : Int32).toInt = 8 := rfl
  have b : (176 : Int32).toInt = 176 := rfl
  have e1 := nw (tq_mulc a x) (by omega)
  have e2 := nw (tq_addc b (8 * x)) (by omega)
  have e3 := nw (tq_add (176 + 8 * x) w) (by omega)
  rw [tn_i]
  omega
theorem ix_d {x : Int32} (hx : 0 ≤ x.toInt ∧ x.toInt < 4) : Int32.toNatClampNeg (8 + (42 * x)) = 8 + 42 * x.toInt.toNat ∧ (8 + (42 * x)).toInt = 8 + 42 * x.toInt := by
  have a : (42 : Int32).toInt = 42 := rfl
  have b : (8 : Int32).toInt = 8 := rfl
  have e1 := nw (tq_mulc a x) (by omega)
  have e2 := nw (tq_addc b (42 * x)) (by omega)
  rw [tn_i]
  omega
theorem ix_d1 {x : Int32} (hx : 0 ≤ x.toInt ∧ x.toInt < 4) : Int32.toNatClampNeg ((8 + (42 * x)) + 1) = 8 + 42 * x.toInt.toNat + 1 ∧ ((8 + (42 * x)) + 1).toInt = 8 + 42 * x.toInt + 1 := by
  have a : (1 : Int32).toInt = 1 := rfl
  have e2 := ix_d hx
  have e3 := nw (tq_addr a (8 + (42 * x))) (by omega)
  rw [tn_i]
  omega
theorem ix_s {x y : Int32} (hx : 0 ≤ x.toInt ∧ x.toInt < 4) (hy : 0 ≤ y.toInt ∧ y.toInt < 40) : Int32.toNatClampNeg (((8 + (42 * x)) + 2) + y) = 8 + 42 * x.toInt.toNat + 2 + y.toInt.toNat ∧ (((8 + (42 * x)) + 2) + y).toInt = 8 + 42 * x.toInt + 2 + y.toInt := by
  have a : (2 : Int32).toInt = 2 := rfl
  have e2 := ix_d hx
  have e3 := nw (tq_addr a (8 + (42 * x))) (by omega)
  have e4 := nw (tq_add ((8 + (42 * x)) + 2) y) (by omega)
  rw [tn_i]
  omega
theorem ix_l {x y z : Int32} (hx : 0 ≤ x.toInt ∧ x.toInt < 4) (hy : 0 ≤ y.toInt ∧ y.toInt < 40) (hz : 0 ≤ z.toInt ∧ z.toInt < 40) : Int32.toNatClampNeg ((496 + (40 * ((40 * x) + y))) + z) = 496 + 40 * (40 * x.toInt.toNat + y.toInt.toNat) + z.toInt.toNat ∧ ((496 + (40 * ((40 * x) + y))) + z).toInt = 496 + 40 * (40 * x.toInt + y.toInt) + z.toInt := by
  have a : (40 : Int32).toInt = 40 := rfl
  have b : (496 : Int32).toInt = 496 := rfl
  have e1 := nw (tq_mulc a x) (by omega)
  have e2 := nw (tq_add (40 * x) y) (by omega)
  have e3 := nw (tq_mulc a (40 * x + y)) (by omega)
  have e4 := nw (tq_addc b (40 * (40 * x + y))) (by omega)
  have e5 := nw (tq_add (496 + 40 * (40 * x + y)) z) (by omega)
  rw [tn_i]
  omega
def ie (l : List Nat) (a b : Nat → Int32) : Prop := ∀ k, k ∉ l → a k = b k
theorem ie_refl (l : List Nat) (a : Nat → Int32) : ie l a a := fun _ _ => rfl
theorem ie_up {l : List Nat} {a b : Nat → Int32} {i : Nat} {v : Int32} (h : ie l a b) (hi : i ∈ l) : ie l (va_up a i v) b := fun k hk => by
  unfold va_up
  by_cases e : k = i
  · subst e
    exact absurd hi hk
  · rw [if_neg e]
    exact h k hk
theorem ie_tr {l m : List Nat} {a b c : Nat → Int32} (h : ie m a b) (hm : ∀ x ∈ m, x ∈ l) (h2 : ie l b c) : ie l a c := fun k hk => (h k (fun g => hk (hm k g))).trans (h2 k hk)
theorem ie_i {l : List Nat} {a b : Nat → Int32} (h : ie l a b) (k : Nat) (hk : k ∉ l) : (a k).toInt = (b k).toInt := congrArg Int32.toInt (h k hk)
def rk (f : Nat → Int64) : Prop := ∃ R W D, rw_ok R W D f ∧ (R ≤ 0 ∨ 0 < D)
def mb (N R W D : Int) (s : Md) : Prop := (s.1 5).toInt = N ∧ (0 ≤ (s.1 0).toInt ∧ (s.1 0).toInt ≤ 10) ∧ (0 ≤ N ∧ N ≤ 400) ∧ (0 ≤ R ∧ R ≤ 6 ∧ 0 ≤ W ∧ W ≤ 10 ∧ 0 ≤ R * W ∧ R * W ≤ 40 ∧ 0 ≤ D ∧ D ≤ 4 ∧ (D ≤ 0 ∨ 1 ≤ R) ∧ (1 ≤ R ∨ R * W = 0)) ∧ rw_ok R W D (s.2.2.1 0) ∧ (∀ k : Nat, (k : Int) < (s.1 0).toInt → rk (fun i => s.2.2.1 1 (6896 * k + i))) ∧ (∀ k : Nat, k < 2 → ¬ s.2.2.2 0 k = 0 → rk (fun i => s.2.2.1 2 (6896 * k + i))) ∧ rk (s.2.2.1 3)
theorem mb_now {N R W D : Int} {s t : Md} (h : mb N R W D s) (h1 : t.1 = s.1) (h2 : ∀ k, ¬ k = 0 → t.2.2.1 k = s.2.2.1 k) (h3 : t.2.2.2 0 = s.2.2.2 0) (hr : rw_ok R W D (t.2.2.1 0)) : mb N R W D t := by
  obtain ⟨a0, a1, a2, a3, a4, a5, a6, a7⟩ := h
  refine ⟨by rw [h1]; exact a0, by rw [h1]; exact a1, a2, a3, hr, fun k hk => ?_, fun k hk => ?_, by rw [h2 3 (by decide)]; exact a7⟩
  · rw [h2 1 (by decide)]
    rw [h1] at hk
    exact a5 k hk
  · rw [h2 2 (by decide), h3]
    exact a6 k hk
theorem w32 {f : Nat → Int64} {i : Nat} (h : -2147483648 ≤ (f i).toInt ∧ (f i).toInt < 2147483648) : (Int64.toInt32 (f i)).toInt = (f i).toInt := nw (tq_32 (f i)) h
