/-! The full relation: boards that are copied, the past, the shelves. -/
def AG (u s : Bd) : Prop := (u.1 0 = s.1 0 ∧ u.1 1 = s.1 1 ∧ u.1 2 = s.1 2 ∧ u.1 3 = s.1 3 ∧ u.1 4 = s.1 4 ∧ u.1 5 = s.1 5) ∧ (∀ d : Nat, d < 4 → u.2.1 0 d = s.2.1 0 d ∧ u.2.1 1 d = s.2.1 1 d) ∧ (∀ k : Nat, k < 160 → u.2.1 2 k = s.2.1 2 k) ∧ (∀ c : Nat, (c : Int) < (s.1 0 * s.1 1).toInt → (∀ j : Nat, j < 7 → u.2.1 (3 + j) c = s.2.1 (3 + j) c) ∧ u.2.2.1 c = s.2.2.1 c)
theorem RB_cells {s : Bd} {f : Nat → Int64} {R W D : Int} (hf : rw_ok R W D f) (hB : RB s f) : (s.1 0).toInt = R ∧ (s.1 1).toInt = W ∧ (s.1 0 * s.1 1).toInt = R * W ∧ (s.1 2).toInt = (f 2).toInt ∧ (s.1 3).toInt = D := by
  obtain ⟨f0, f1, f3, _, f2, f5, _⟩ := hf
  obtain ⟨⟨b0, b1, b2, b3⟩, _⟩ := hB
  have e0 : (s.1 0).toInt = R := by rw [b0, t32 (by omega), f0]
  have e1 : (s.1 1).toInt = W := by rw [b1, t32 (by omega), f1]
  have e2 : (s.1 2).toInt = (f 2).toInt := by rw [b2, t32 (by omega)]
  have e3 : (s.1 3).toInt = D := by rw [b3, t32 (by omega), f3]
  have em := nw (tq_mul (s.1 0) (s.1 1)) (by rw [e0, e1]; omega)
  rw [e0, e1] at em
  exact ⟨e0, e1, em, e2, e3⟩
theorem RB_ag {u s : Bd} {f : Nat → Int64} {R W D : Int} (hf : rw_ok R W D f) (h : AG u s) (hB : RB s f) : RB u f := by
  obtain ⟨_, _, em, _, _⟩ := RB_cells hf hB
  obtain ⟨⟨a0, a1, a2, a3, _, _⟩, ad, as_, ac⟩ := h
  obtain ⟨⟨b0, b1, b2, b3⟩, ⟨b4, b5⟩, b6⟩ := hB
  refine ⟨⟨a0.trans b0, a1.trans b1, a2.trans b2, a3.trans b3⟩, ⟨b4, fun d hd => ?_⟩, fun c hc => ?_⟩
  · obtain ⟨c1, c2, c3, c4⟩ := b5 d hd
    have c10 := c1.1
    refine ⟨c1, ((ad d (by omega)).1).trans c2, ((ad d (by omega)).2).trans c3, fun k hk => ?_⟩
    exact (as_ (40 * d + k) (by omega)).trans (c4 k hk)
  · have hc2 : (c : Int) < (s.1 0 * s.1 1).toInt := by rw [em, ← hf.1, ← hf.2.1]; exact hc
    exact ⟨fun j hj => ((ac c hc2).1 j hj).trans ((b6 c hc).1 j hj), ((ac c hc2).2).trans (b6 c hc).2.1, (b6 c hc).2.2⟩
theorem RB_cg {s : Bd} {f g : Nat → Int64} {R W D : Int} (hf : rw_ok R W D f) (h : ∀ i : Nat, i < 496 → g i = f i) (hB : RB s f) : RB s g := by
  have k40 : R * W ≤ 40 := hf.2.2.2.2.2.1.2.2.2.2.2.1
  obtain ⟨⟨b0, b1, b2, b3⟩, ⟨b4, b5⟩, b6⟩ := hB
  have g0 := h 0 (by omega)
  have g1 := h 1 (by omega)
  have g3 := h 3 (by omega)
  refine ⟨⟨?_, ?_, ?_, ?_⟩, ⟨?_, fun d hd => ?_⟩, fun c hc => ?_⟩
  · rw [g0]
    exact b0
  · rw [g1]
    exact b1
  · rw [h 2 (by omega)]
    exact b2
  · rw [g3]
    exact b3
  · rw [g3, g0, g1]
    exact b4
  · rw [g3] at hd
    obtain ⟨c1, c2, c3, c4⟩ := b5 d hd
    have c10 := c1.1
    have dd : d_f g d = d_f f d := by unfold d_f; rw [h _ (by omega)]
    have d0 := h (8 + 42 * d) (by omega)
    have d1 := h (8 + 42 * d + 1) (by omega)
    rw [dd, d0, d1]
    refine ⟨DG_k c1 (fun i h1 h2 => h i (by omega)), c2, c3, fun k hk => ?_⟩
    rw [h (8 + 42 * d + 2 + k) (by omega)]
    exact c4 k hk
  · rw [g0, g1] at hc
    obtain ⟨c1, c2⟩ := b6 c hc
    have hc3 : (c : Int) < R * W := by rw [← hf.1, ← hf.2.1]; exact hc
    refine ⟨fun j hj => ?_, ?_⟩
    · rw [h _ (by omega)]
      exact c1 j hj
    · rw [h _ (by omega)]
      exact c2
theorem RB_cgr {s : Bd} {f g : Nat → Int64} {R W D : Int} (hg : rw_ok R W D g) (h : ∀ i : Nat, i < 496 → g i = f i) (hB : RB s f) : RB s g := by
  have k40 : R * W ≤ 40 := hg.2.2.2.2.2.1.2.2.2.2.2.1
  have g0 := h 0 (by omega)
  have g1 := h 1 (by omega)
  have k41 : (f 0).toInt * (f 1).toInt = R * W := by rw [← g0, ← g1, hg.1, hg.2.1]
  obtain ⟨⟨b0, b1, b2, b3⟩, ⟨b4, b5⟩, b6⟩ := hB
  have g3 := h 3 (by omega)
  refine ⟨⟨?_, ?_, ?_, ?_⟩, ⟨?_, fun d hd => ?_⟩, fun c hc => ?_⟩
  · rw [g0]
    exact b0
  · rw [g1]
    exact b1
  · rw [h 2 (by omega)]
    exact b2
  · rw [g3]
    exact b3
  · rw [g3, g0, g1]
    exact b4
  · rw [g3] at hd
    obtain ⟨c1, c2, c3, c4⟩ := b5 d hd
    have c10 := c1.1
    have dd : d_f g d = d_f f d := by unfold d_f; rw [h _ (by omega)]
    have d0 := h (8 + 42 * d) (by omega)
    have d1 := h (8 + 42 * d + 1) (by omega)
    rw [dd, d0, d1]
    refine ⟨DG_k c1 (fun i h1 h2 => h i (by omega)), c2, c3, fun k hk => ?_⟩
    rw [h (8 + 42 * d + 2 + k) (by omega)]
    exact c4 k hk
  · rw [g0, g1] at hc
    obtain ⟨c1, c2⟩ := b6 c hc
    refine ⟨fun j hj => ?_, ?_⟩
    · rw [h _ (by omega)]
      exact c1 j hj
    · rw [h _ (by omega)]
      exact c2
theorem cpy_in {α : Type} {f g : Nat → α} {n : Nat} {k : Nat} (h : k < n) : va_cpy f g 0 0 n k = f k := by
  unfold va_cpy
  rw [if_pos ⟨Nat.zero_le _, by omega⟩]
  congr 1
  omega
theorem e0_copyBut {P : Bd → Prop} {s0 s1 : Bd} (h : wp_X0_copyAllButLog P s0 s1) : ∃ u, P u ∧ AG u s1 ∧ u.2.2.2 = s0.2.2.2 := by
  unfold wp_X0_copyAllButLog at h
  have h := cells6_e h
  have h := h.2.2.2.2.2.2.2.2.2.2.2.2.2.2.2.2.2.2.2.2.2.2.2.2
  refine ⟨_, h, ⟨⟨rfl, rfl, rfl, rfl, rfl, rfl⟩, fun d hd => ⟨?_, ?_⟩, fun k hk => ?_, fun c hc => ⟨fun j hj => ?_, ?_⟩⟩, rfl⟩
  · exact cpy_in (n := 4) hd
  · exact cpy_in (n := 4) hd
  · exact cpy_in (n := 160) hk
  · have hc2 : c < Int32.toNatClampNeg (s1.1 0 * s1.1 1) := by rw [tn_i]; omega
    match j, hj with
    | 0, _ => exact cpy_in hc2
    | 1, _ => exact cpy_in hc2
    | 2, _ => exact cpy_in hc2
    | 3, _ => exact cpy_in hc2
    | 4, _ => exact cpy_in hc2
    | 5, _ => exact cpy_in hc2
    | 6, _ => exact cpy_in hc2
  · have hc2 : c < Int32.toNatClampNeg (s1.1 0 * s1.1 1) := by rw [tn_i]; omega
    exact cpy_in hc2
theorem e0_copyAll {P : Bd → Prop} {s0 s1 : Bd} (h : wp_X0_copyAll P s0 s1) : ∃ u, P u ∧ AG u s1 := by
  unfold wp_X0_copyAll at h
  obtain ⟨v, h, a, _⟩ := e0_copyBut h
  obtain ⟨r, h, _⟩ := xf_dt (dt_X0_entryCount s1) _ h
  by_cases c : r ≤ Int32.ofNat v.2.2.2.1
  · exact ⟨_, (h.1 c).2.2.2, a⟩
  · exact ⟨_, (h.2 c).2.2.2.2.2, a⟩
/-! the past -/
def pw (m : Md) (j : Nat) : Nat → Int64 := fun i => m.2.2.1 1 (6896 * ((m.1 0).toInt.toNat - 1 - j) + i)
def KA (s u : Md) : Prop := (u.1 0).toInt = (if (s.1 0).toInt < 10 then (s.1 0).toInt + 1 else 10) ∧ ie [0] u.1 s.1 ∧ u.2.1 = s.2.1 ∧ u.2.2.2 = s.2.2.2 ∧ (∀ k, ¬ k = 1 → u.2.2.1 k = s.2.2.1 k) ∧ (∀ i : Nat, i < 6896 → pw u 0 i = s.2.2.1 0 i) ∧ (∀ j : Nat, (j : Int) + 1 < (u.1 0).toInt → ∀ i : Nat, i < 6896 → pw u (j + 1) i = pw s j i)
theorem ka_f {s0 : Md} (h0 : 0 ≤ (s0.1 0).toInt ∧ (s0.1 0).toInt ≤ 9) : ∃ n53, wp_X7_keepsAct_L53 (KA s0) (fun t0 z1 => KA s0 ((va_up t0.1 0 ((t0.1 0) + 1)), t0.2.1, t0.2.2.1, t0.2.2.2)) n53 s0 0 := by
  have e0 : (0 : Int32).toInt = 0 := rfl
  have e1 : (1 : Int32).toInt = 1 := rfl
  obtain ⟨nf, hf⟩ := fu_e 7000
  refine ⟨nf, wq_X7_keepsAct_L53 (s := s0) h0 (fun t z b1 b2 b3 b4 b5 b6 => ?_) nf s0 0 rfl rfl rfl (fun _ _ => rfl) (fun i hi => ?_) (fun _ _ => rfl) (by omega) (by omega)⟩
  · have t0 : t.1 0 = s0.1 0 := by rw [b1]
    have s1 := nw (tq_addr e1 (s0.1 0)) (by omega)
    have v0 : (((va_up t.1 0 ((t.1 0) + 1)), t.2.1, t.2.2.1, t.2.2.2) : Md).1 0 = s0.1 0 + 1 := by
      show t.1 0 + 1 = _
      rw [t0]
    refine ⟨?_, ie_up (by rw [b1]; exact ie_refl _ _) (by decide), b2, b3, b4, fun i hi => ?_, fun j hj i hi => ?_⟩
    · rw [v0, if_pos (by omega)]
      exact s1
    · unfold pw
      rw [v0]
      show t.2.2.1 1 _ = _
      have q := b5 i hi
      rw [Nat.zero_add] at q
      have eN : 6896 * ((s0.1 0 + 1).toInt.toNat - 1 - 0) + i = 6896 * (s0.1 0).toInt.toNat + i := by
        rw [s1]
        omega
      rw [eN]
      exact q
    · unfold pw
      rw [v0] at hj ⊢
      show t.2.2.1 1 _ = _
      have eN : 6896 * ((s0.1 0 + 1).toInt.toNat - 1 - (j + 1)) + i = 6896 * ((s0.1 0).toInt.toNat - 1 - j) + i := by
        rw [s1]
        omega
      rw [eN, b6 _ (by omega)]
  · omega
theorem wr_keepsAct {s0 : Md} (h0 : 0 ≤ (s0.1 0).toInt ∧ (s0.1 0).toInt ≤ 10) : wp_X7_keepsAct (KA s0) s0 := by
  unfold wp_X7_keepsAct
  have e10 : (10 : Int32).toInt = 10 := rfl
  have e1 : (1 : Int32).toInt = 1 := rfl
  have eR : (6896 : Int32).toInt = 6896 := rfl
  refine ⟨fun c => ka_f (by have := q_neq c; omega), fun c => ?_⟩
  have c2 := q_eq c
  obtain ⟨nf, hf⟩ := fu_e 70000
  refine ⟨nf, wq_X7_keepsAct_L13 (s := s0) (fun t z b1 b2 b3 b4 b5 => ?_) nf s0 6896 rfl rfl rfl (fun _ _ => rfl) (fun i hi => ?_) (fun _ _ => rfl) (by omega) (by omega)⟩
  · have t0 : t.1 0 = s0.1 0 := by rw [b1]
    have s1 := nw (tq_subr e1 (s0.1 0)) (by omega)
    have v0 : (((va_up t.1 0 ((t.1 0) - 1)), t.2.1, t.2.2.1, t.2.2.2) : Md).1 0 = s0.1 0 - 1 := by
      show t.1 0 - 1 = _
      rw [t0]
    obtain ⟨n, hn⟩ := ka_f (s0 := ((va_up t.1 0 ((t.1 0) - 1)), t.2.1, t.2.2.1, t.2.2.2)) (by rw [v0]; omega)
    have M : ∀ u : Md, KA ((va_up t.1 0 ((t.1 0) - 1)), t.2.1, t.2.2.1, t.2.2.2) u → KA s0 u := fun u hu => by
      obtain ⟨k1, k2, k3, k4, k5, k6, k7⟩ := hu
      rw [v0, if_pos (by omega)] at k1
      refine ⟨by rw [if_neg (by omega)]; omega, ie_tr k2 (by decide) (ie_up (by rw [b1]; exact ie_refl _ _) (by decide)), k3.trans b2, k4.trans b3, fun k hk => (k5 k hk).trans (b4 k hk), fun i hi => (k6 i hi).trans ?_, fun j hj i hi => (k7 j hj i hi).trans ?_⟩
      · show t.2.2.1 0 i = _
        rw [b4 0 (by decide)]
      · unfold pw
        rw [v0]
        show t.2.2.1 1 _ = _
        rw [b5 _ (by omega)]
        have eN : 6896 * ((s0.1 0 - 1).toInt.toNat - 1 - j) + i + 6896 = 6896 * ((s0.1 0).toInt.toNat - 1 - j) + i := by
          rw [s1]
          omega
        rw [eN]
    refine ⟨n, ?_⟩
    have R := dt_mono (F := fun P : Md → Prop => wp_X7_keepsAct_L53 P (fun t0 z1 => P ((va_up t0.1 0 ((t0.1 0) + 1)), t0.2.1, t0.2.2.1, t0.2.2.2)) n ((va_up t.1 0 ((t.1 0) - 1)), t.2.1, t.2.2.1, t.2.2.2) 0) ?_ hn M
    · exact R
    · exact dl_X7_keepsAct_L53 (fun _ => dt_r _) (fun _ _ => dt_r _) _ _ _ _
  · omega
def RP (s6 : Pa) (m : Md) : Prop := s6.1 0 = m.1 0 ∧ ∀ j : Nat, (j : Int) < (m.1 0).toInt → ∃ b, s6.2 (((s6.1 1).toInt.toNat + 9 - j) % 10) = some b ∧ RB b (pw m j)
theorem pw_ok {N R W D : Int} {m : Md} (hM : mb N R W D m) {j : Nat} (hj : (j : Int) < (m.1 0).toInt) : rk (pw m j) := by
  have q := hM.2.2.2.2.2.1 ((m.1 0).toInt.toNat - 1 - j) (by omega)
  exact q
theorem md10 {x : Int32} (h : 0 ≤ x.toInt ∧ x.toInt ≤ 9) : (((x + 1) - (x + 1) / 10 * 10).toInt = if x.toInt = 9 then 0 else x.toInt + 1) ∧ ((((x + 10) - 1) - ((x + 10) - 1) / 10 * 10).toInt = if x.toInt = 0 then 9 else x.toInt - 1) := by
  have T : ∀ k : Nat, k < 10 → (((nI k + 1) - (nI k + 1) / 10 * 10).toInt = if k = 9 then 0 else (k : Int) + 1) ∧ ((((nI k + 10) - 1) - ((nI k + 10) - 1) / 10 * 10).toInt = if k = 0 then 9 else (k : Int) - 1) := by decide +kernel
  have q := T x.toInt.toNat (by omega)
  rw [nI_tn h.1] at q
  refine ⟨q.1.trans ?_, q.2.trans ?_⟩
  · by_cases c : x.toInt = 9
    · rw [if_pos (by omega), if_pos c]
    · rw [if_neg (by omega), if_neg c]
      omega
  · by_cases c : x.toInt = 0
    · rw [if_pos (by omega), if_pos c]
    · rw [if_neg (by omega), if_neg c]
      omega
theorem sm_push {P6 : Pa → Prop} {P7 : Md → Prop} {s6 : Pa} {s2 : Bd} {m : Md} {N R W D : Int} (hp : pa s6) (hP : RP s6 m) (hB : RB s2 (m.2.2.1 0)) (hM : mb N R W D m) (hs : R ≤ 0 ∨ 0 < D) (h6 : wp_X3_push P6 s6 s2) (h7 : wp_X7_keepsAct P7 m) : ∃ pa' m', P6 pa' ∧ P7 m' ∧ RP pa' m' ∧ mb N R W D m' ∧ ie [0] m'.1 m.1 ∧ m'.2.1 = m.2.1 ∧ m'.2.2.2 = m.2.2.2 ∧ (∀ k, ¬ k = 1 → m'.2.2.1 k = m.2.2.1 k) := by
  have e1 : (1 : Int32).toInt = 1 := rfl
  have e10 : (10 : Int32).toInt = 10 := rfl
  obtain ⟨⟨p1, p2, p3, p4⟩, _⟩ := hp
  obtain ⟨u, h7, k7, mu⟩ := dt_both (dt_X7_keepsAct m) (P := P7) (Q := fun u => KA m u ∧ mb N R W D u) h7 (dt_conj (dt_X7_keepsAct m) (wr_keepsAct (s0 := m) hM.2.1) (wq_X7_keepsAct hM hs (fun u a _ _ => a)))
  obtain ⟨k1, k2, k3, k4, k5, k6, k8⟩ := k7
  -- the class's side
  have C : ∃ S, AG S s2 ∧ P6 ((va_up (va_up s6.1 0 (if 10 < ((s6.1 0) + 1) then 10 else ((s6.1 0) + 1))) 1 (((s6.1 1) + 1) - ((s6.1 1) + 1) / 10 * 10)), (va_up s6.2 (Int32.toNatClampNeg (s6.1 1)) (some S))) := by
    unfold wp_X3_push at h6
    have h6 := h6.2
    cases hc : s6.2 (Int32.toNatClampNeg (s6.1 1)) with
    | none =>
      rw [hc] at h6
      obtain ⟨S, g, a⟩ := e0_copyAll h6
      exact ⟨S, a, g⟩
    | some S2 =>
      rw [hc] at h6
      obtain ⟨S, g, a⟩ := e0_copyAll h6
      exact ⟨S, a, g⟩
  obtain ⟨S, aS, g6⟩ := C
  refine ⟨_, u, g6, h7, ⟨?_, fun j hj => ?_⟩, mu, k2, k3, k4, k5⟩
  · show (if 10 < ((s6.1 0) + 1) then 10 else ((s6.1 0) + 1)) = u.1 0
    have a := nw (tq_addr e1 (s6.1 0)) (by omega)
    rw [← hP.1] at k1
    by_cases c : 10 < s6.1 0 + 1
    · have := q_lt c
      rw [if_pos c]
      refine Int32.toInt_inj.mp ?_
      rw [k1, if_neg (by omega)]
      exact e10
    · have := q_nlt c
      rw [if_neg c]
      refine Int32.toInt_inj.mp ?_
      rw [k1, if_pos (by omega)]
      exact a
  · have d10 := (md10 (x := s6.1 1) ⟨p3, p4⟩).1
    show ∃ b, va_up s6.2 (Int32.toNatClampNeg (s6.1 1)) (some S) (((((s6.1 1) + 1) - ((s6.1 1) + 1) / 10 * 10).toInt.toNat + 9 - j) % 10) = some b ∧ RB b (pw u j)
    rw [d10, tn_i]
    have rR := hM.2.2.2.2.1
    by_cases cj : j = 0
    · subst cj
      have ix : ((if (s6.1 1).toInt = 9 then 0 else (s6.1 1).toInt + 1).toNat + 9 - 0) % 10 = (s6.1 1).toInt.toNat := by
        by_cases c : (s6.1 1).toInt = 9
        · rw [if_pos c]
          omega
        · rw [if_neg c]
          omega
      rw [ix]
      refine ⟨S, va_up_self _ _ _, ?_⟩
      exact RB_cg rR (fun i hi => k6 i (by omega)) (RB_ag rR aS hB)
    · obtain ⟨i, rfl⟩ : ∃ i, j = i + 1 := ⟨j - 1, by omega⟩
      have hi : (i : Int) < (m.1 0).toInt := by
        by_cases c : (m.1 0).toInt < 10
        · rw [if_pos c] at k1
          omega
        · rw [if_neg c] at k1
          omega
      have hi9 : i < 9 := by
        have := mu.2.1
        omega
      obtain ⟨b, b1, b2⟩ := hP.2 i hi
      have ix : ((if (s6.1 1).toInt = 9 then 0 else (s6.1 1).toInt + 1).toNat + 9 - (i + 1)) % 10 = ((s6.1 1).toInt.toNat + 9 - i) % 10 := by
        by_cases c : (s6.1 1).toInt = 9
        · rw [if_pos c]
          omega
        · rw [if_neg c]
          omega
      have ne : ¬ ((s6.1 1).toInt.toNat + 9 - i) % 10 = (s6.1 1).toInt.toNat := by omega
      rw [ix]
      refine ⟨b, (va_up_ne _ _ ne).trans b1, ?_⟩
      obtain ⟨R4, W4, D4, g1, _⟩ := pw_ok hM hi
      exact RB_cg g1 (fun k hk => k8 i (by omega) k (by omega)) b2
