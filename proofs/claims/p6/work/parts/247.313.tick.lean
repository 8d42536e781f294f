/-! One tick on both sides. -/
theorem fs_ct {T : Nat → Bool} : ∀ n, n < 1000 → (fs (fun _ => 1) T n).toInt = (ct T n : Int) := by
  intro n
  induction n with
  | zero => intro _; rfl
  | succ n ih =>
    intro hn
    have i := ih (by omega)
    have l := ct_le T n
    have e1 : (1 : Int32).toInt = 1 := rfl
    have a := nw (tq_addr e1 (fs (fun _ => 1) T n)) (by omega)
    show (fs (fun _ => 1) T n + (if T n then 1 else 0)).toInt = ((ct T n + (if T n then 1 else 0) : Nat) : Int)
    cases q : T n with
    | true =>
      rw [if_pos rfl, if_pos rfl, a]
      omega
    | false =>
      rw [if_neg (by decide), if_neg (by decide), Int32.add_zero, i]
      omega
theorem fs_f {g : Nat → Int32} : ∀ n, fs g (fun _ => false) n = 0 := by
  intro n
  induction n with
  | zero => rfl
  | succ n ih =>
    show fs g (fun _ => false) n + 0 = 0
    rw [ih]
    rfl
theorem SW_k {f g g' : Nat → Int64} {c : Nat} (h : SW f g c) (k : ∀ j, j < 8 → g' (176 + 8 * c + j) = g (176 + 8 * c + j)) : SW f g' c := by
  unfold SW at h ⊢
  rw [k 0 (by decide), k 1 (by decide), k 2 (by decide), k 3 (by decide), k 4 (by decide), k 5 (by decide), k 6 (by decide), k 7 (by decide)]
  exact h
theorem PR_nn {n : Nat} {L C : Nat → Int} {lim : Int} (hC : ∀ c, c < n → 0 ≤ C c) : ∀ {k : Nat} {A T : Nat → Bool} {m : Nat} {u : Int}, PR n L C lim k A T m u → 0 ≤ u := by
  intro k
  induction k with
  | zero =>
    intro A T m u h
    have := h.2.2.2
    omega
  | succ k ih =>
    intro A T m u h
    obtain ⟨A1, T1, m1, u1, c, a, b, e, g⟩ := h
    have i := ih a
    have := hC _ b.1
    rcases g with ⟨p1, p2, p3, p4⟩ | ⟨p1, p2, p3, p4⟩
    · omega
    · omega
/-- what the reference's tick leaves -/
def TF (v v' : Md) (r : Int32) : Prop := (v'.1 0 = v.1 0 ∧ v'.1 5 = v.1 5 ∧ ie [1, 2] v'.1 v.1) ∧ (v'.2.2.1 1 = v.2.2.1 1 ∧ v'.2.2.1 2 = v.2.2.1 2 ∧ v'.2.2.1 3 = v.2.2.1 3 ∧ v'.2.2.2 = v.2.2.2) ∧ mu_n (v'.2.2.1 0) 40 ≤ mu_n (v.2.2.1 0) 40 ∧ (r.toInt ≤ 0 ∨ mu_n (v'.2.2.1 0) 40 < mu_n (v.2.2.1 0) 40)
def TC (v v' : Md) (u : Mo) (fo : Int32) : Prop := v'.1 1 = u.1 0 ∧ v'.1 2 = u.1 1 ∧ (0 ≤ (u.1 0).toInt ∧ (u.1 0).toInt ≤ 40) ∧ (0 ≤ (u.1 1).toInt ∧ (u.1 1).toInt ≤ 99) ∧ Int64.toInt32 (v'.2.2.1 0 7) = Int64.toInt32 (v.2.2.1 0 7) + fo ∧ Int64.toInt32 (v'.2.2.1 0 6) = Int64.toInt32 (v.2.2.1 0 6) + u.1 0
/-- nobody turns -/
def IDL (f : Nat → Int64) (R W : Int) : Prop := ∃ k A u, PR (R * W).toNat (LE f) (CU f) (f 2).toInt k A (fun _ => false) 0 u ∧ CP (R * W).toNat (LE f) (f 2).toInt A u
theorem sm_tk {post : Mo → Bd → Prop} {K : Mo → Bd → Int32 → Int32 → Int32 → Prop} {P7 : Int32 → Md → Prop} {t0 : Mo} {b : Bd} {v : Md} {z2 z3 : Int32} {N R W D : Int} (hM : mb N R W D v) (hD : 0 < D) (hB : RB b (v.2.2.1 0)) (h6 : wp_X2_choose (fun u => ((¬ (u.1 0) = 0 → (∃ n27, wp_X2_turn_L27 post K n27 u b z2 z3 0)) ∧ ((u.1 0) = 0 → post u b))) t0 b) (h7 : wp_X7_ticks P7 v) : ∃ (u : Mo) (v' : Md) (fo : Int32), P7 (u.1 0) v' ∧ ie [0, 1] u.1 t0.1 ∧ mb N R W D v' ∧ TF v v' (u.1 0) ∧ TC v v' u fo ∧ ((u.1 0 = 0 ∧ post u b ∧ v'.2.2.1 0 = v.2.2.1 0 ∧ IDL (v.2.2.1 0) R W) ∨ (¬ u.1 0 = 0 ∧ ∃ u' b' z', K u' b' z2 z3 z' ∧ u'.2 = u.2 ∧ (∀ i, ¬ i = 8 → u'.1 i = u.1 i) ∧ u'.1 8 = u.1 8 + fo ∧ b'.1 = b.1 ∧ RB b' (v'.2.2.1 0))) := by
  have hf := hM.2.2.2.2.1
  have hR := hf.2.2.2.2.2.1
  have hL := hf.2.2.2.2.1
  have e0 : (0 : Int32).toInt = 0 := rfl
  have h7 : wp_X7_ticks (fun r u => P7 r u ∧ (mb N R W D u ∧ ie [1, 2] u.1 v.1 ∧ (mu_n (u.2.2.1 0) 40 ≤ mu_n (v.2.2.1 0) 40 ∧ (r.toInt ≤ 0 ∨ mu_n (u.2.2.1 0) 40 < mu_n (v.2.2.1 0) 40)))) v := dt_conj (dt_X7_ticks v) (P := fun o => P7 o.1 o.2) (Q := fun o => mb N R W D o.2 ∧ ie [1, 2] o.2.1 v.1 ∧ (mu_n (o.2.2.2.1 0) 40 ≤ mu_n (v.2.2.1 0) 40 ∧ (o.1.toInt ≤ 0 ∨ mu_n (o.2.2.2.1 0) 40 < mu_n (v.2.2.1 0) 40))) h7 (wq_X7_ticks hM hD (fun r u a b _ d => ⟨a, b, d⟩))
  obtain ⟨u, h6, i6, k6, A6, T6, ch, p6, q6⟩ := e2_choose hf hD hB h6
  unfold wp_X7_ticks at h7
  have h7 := dt_conj (dt_X7_findsTurning v) h7 (wq_X7_findsTurningB (post := fun u => mb N R W D u) hM hD (fun u a _ _ => a))
  obtain ⟨w, ⟨⟨n7, h7⟩, mw⟩, w1, w2, w3, m7, k7, A7, p7, q7⟩ := e7_finds hf hD hB h7
  obtain ⟨eT, em, ec⟩ := PR_f (fun c hc => (CU_b hf hD hB (c := c) (by omega)).1) p6 q6 p7 q7
  have pc := PR_ct p6
  have pb := PR_b (by omega) p6
  have cl := ct_le T6 (R * W).toNat
  have e1 : w.1 1 = u.1 0 := Int32.toInt_inj.mp (by have := ch.1; omega)
  have e2 : w.1 2 = u.1 1 := Int32.toInt_inj.mp ec.symm
  have cur0 : 0 ≤ (u.1 1).toInt := PR_nn (fun c hc => by have := (CU_b hf hD hB (c := c) (by omega)).1; omega) p6
  obtain ⟨v', z', h7, mv, fN, sv⟩ := e7_ticks_L (s := w) (f := v.2.2.1 0) (by rw [w2]) hf hD n7 w 0 mw (FN_rf w) (by decide) (by rw [e0]; omega) (by
    rw [w2]
    exact ⟨fun _ _ _ => rfl, fun c hc => ⟨fun g => (by have := g.2; rw [e0] at this; omega), fun _ _ _ => rfl⟩, ⟨(Int32.add_zero _).symm, (Int32.add_zero _).symm⟩, fun _ => rfl⟩) h7
  rw [← eT] at sv
  have f1 : v'.1 1 = u.1 0 := by rw [fN.1, e1]
  have f2 : v'.1 2 = u.1 1 := by rw [fN.1, e2]
  rw [f1] at h7
  obtain ⟨s1, s2, ⟨s3, s4⟩, s5⟩ := sv
  have sc : fs (fun _ => 1) T6 (R * W).toNat = u.1 0 := Int32.toInt_inj.mp (by rw [fs_ct _ (by omega), pc.2.1]; have := ch.1; omega)
  rw [sc] at s4
  have W' : ∀ c, c < (R * W).toNat → (T6 c = true → SW (v.2.2.1 0) (v'.2.2.1 0) c) ∧ (T6 c = false → ∀ j, j < 8 → v'.2.2.1 0 (176 + 8 * c + j) = v.2.2.1 0 (176 + 8 * c + j)) := fun c hc => ⟨fun g => (s2 c hc).1 ⟨g, hc⟩, fun g => (s2 c hc).2 (fun k => by rw [g] at k; cases k.1)⟩
  have mlt : (u.1 0).toInt ≤ 40 := by have := ch.1; omega
  by_cases c : u.1 0 = 0
  · obtain ⟨h7, m', i', mu1, mu2⟩ := h7.2 c
    rw [← c] at h7 mu2
    have nT : ∀ i, T6 i = false := fun i => by
      cases q : T6 i with
      | false => rfl
      | true =>
        exfalso
        obtain ⟨j, j1, _⟩ := ch.2.2.1 i q
        rw [c, e0] at j1
        omega
    have idl : IDL (v.2.2.1 0) R W := by
      have eT : T6 = fun _ => false := funext nT
      rw [eT, c] at p6
      exact ⟨k6, A6, (u.1 1).toInt, p6, q6⟩
    refine ⟨u, v', _, h7, i6, m', ⟨⟨by rw [fN.1]; exact w1 0 (by decide), by rw [fN.1]; exact w1 5 (by decide), i'⟩, ⟨by rw [fN.2.2.1 1 (by decide), w2], by rw [fN.2.2.1 2 (by decide), w2], by rw [fN.2.2.1 3 (by decide), w2], by rw [fN.2.2.2, w3]⟩, mu1, mu2⟩, ⟨f1, f2, ⟨ch.1, mlt⟩, ⟨cur0, by have := pb.1; omega⟩, s3, s4⟩, Or.inl ⟨c, h6.2 c, s5 (fun i _ => nT i), idl⟩⟩
  · obtain ⟨h7, m', i', mu1, mu2⟩ := h7.1 c
    obtain ⟨n27, h6⟩ := h6.1 c
    obtain ⟨t', b', z', h6, g1, g2, g3, g4⟩ := e2_turn_L hf hD hB ch mlt (fun i hi => by have := (pb.2.2 i (pb.2.1 i hi)).1; omega) n27 u b 0 (fun _ => false) rfl (fun _ _ => rfl) (by decide) (by rw [e0]; exact ch.1) ⟨rfl, rfl, fun _ _ => rfl, fun c => ⟨fun g => (by cases g), fun _ _ => rfl⟩⟩ (by rw [fs_f, Int32.add_zero]) (fun i => ⟨fun g => (by cases g), fun ⟨j, j1, _⟩ => (by rw [e0] at j1; omega)⟩) h6
    have r45 : ∀ i, ¬ i = 4 → ¬ i = 5 → vp_updL (vp_updL (v'.2.2.1 0) (Int32.toNatClampNeg 4) (Int32.toInt64 (Int64.toInt32 (((v'.2.2.1 0) (Int32.toNatClampNeg 4)) + (Int32.toInt64 ((u.1 0) * (u.1 0))))))) (Int32.toNatClampNeg 5) (((vp_updL (v'.2.2.1 0) (Int32.toNatClampNeg 4) (Int32.toInt64 (Int64.toInt32 (((v'.2.2.1 0) (Int32.toNatClampNeg 4)) + (Int32.toInt64 ((u.1 0) * (u.1 0))))))) (Int32.toNatClampNeg 5)) + 1) i = v'.2.2.1 0 i := fun i a b => by
      have t4 : Int32.toNatClampNeg 4 = 4 := rfl
      have t5 : Int32.toNatClampNeg 5 = 5 := rfl
      rw [t4, t5, uL_n b, uL_n a]
    refine ⟨u, _, _, h7, i6, m', ⟨⟨?_, ?_, i'⟩, ⟨?_, ?_, ?_, ?_⟩, mu1, mu2⟩, ⟨f1, f2, ⟨ch.1, mlt⟩, ⟨cur0, by have := pb.1; omega⟩, (congrArg Int64.toInt32 (r45 7 (by decide) (by decide))).trans s3, (congrArg Int64.toInt32 (r45 6 (by decide) (by decide))).trans s4⟩, Or.inr ⟨c, t', b', z', h6, g1, g2, g4, g3.1, ?_⟩⟩
    · show v'.1 0 = _
      rw [fN.1]
      exact w1 0 (by decide)
    · show v'.1 5 = _
      rw [fN.1]
      exact w1 5 (by decide)
    · exact (fN.2.2.1 1 (by decide)).trans (by rw [w2])
    · exact (fN.2.2.1 2 (by decide)).trans (by rw [w2])
    · exact (fN.2.2.1 3 (by decide)).trans (by rw [w2])
    · exact fN.2.2.2.trans w3
    · refine RB_tick hf hB g3 rfl (fun i a b => (r45 i (by omega) (by omega)).trans (s1 i (Or.inl a) (by omega))) (fun c hc => ⟨fun g => ?_, fun g j hj => (r45 _ (by omega) (by omega)).trans ((W' c hc).2 g j hj)⟩)
      exact SW_k ((W' c hc).1 g) (fun j hj => r45 _ (by omega) (by omega))
