/-! The ticks of a whole turning, as both count them. -/
def TK (v : Md) (r : Int32) (v' : Md) : Prop := ∀ P : Int32 → Md → Prop, wp_X7_ticks P v → P r v'
theorem tk_ex {v : Md} {N R W D : Int} (hM : mb N R W D v) (hD : 0 < D) : wp_X7_ticks (fun r v' => TK v r v') v := by
  obtain ⟨o, _, w, d⟩ := dt_X7_ticks v (fun _ => True) (wq_X7_ticks (post := fun _ _ => True) hM hD (fun _ _ _ _ _ _ => trivial))
  exact w (fun o => TK v o.1 o.2) (fun P h => d (fun o => P o.1 o.2) h)
/-- a tick counted -/
def cu (a : Nat → Int32) (r c fo : Int32) : Nat → Int32 := fun i => if i = 2 then a 2 + 1 else if i = 3 then a 3 + r else if i = 4 then a 4 + r * r else if i = 5 then (if a 5 < c then c else a 5) else if i = 6 then (if r * r ≤ a 7 then a 6 else a 2) else if i = 7 then (if r * r ≤ a 7 then a 7 else r * r) else a 8 + fo
def TG (v v' : Md) : Prop := (v'.1 0 = v.1 0 ∧ v'.1 5 = v.1 5 ∧ ie [1, 2] v'.1 v.1) ∧ (v'.2.2.1 1 = v.2.2.1 1 ∧ v'.2.2.1 2 = v.2.2.1 2 ∧ v'.2.2.1 3 = v.2.2.1 3 ∧ v'.2.2.2 = v.2.2.2)
theorem TG_rf (v : Md) : TG v v := ⟨⟨rfl, rfl, ie_refl _ _⟩, rfl, rfl, rfl, rfl⟩
theorem TG_tr {v u w : Md} (a : TG v u) (b : TG u w) : TG v w := ⟨⟨b.1.1.trans a.1.1, b.1.2.1.trans a.1.2.1, ie_tr b.1.2.2 (by decide) a.1.2.2⟩, b.2.1.trans a.2.1, b.2.2.1.trans a.2.2.1, b.2.2.2.1.trans a.2.2.2.1, b.2.2.2.2.trans a.2.2.2.2⟩
def TB (v v' : Md) (r fo : Int32) : Prop := TK v r v' ∧ v'.1 1 = r ∧ (1 ≤ r.toInt ∧ r.toInt ≤ 40) ∧ (0 ≤ (v'.1 2).toInt ∧ (v'.1 2).toInt ≤ 99) ∧ Int64.toInt32 (v'.2.2.1 0 7) = Int64.toInt32 (v.2.2.1 0 7) + fo ∧ Int64.toInt32 (v'.2.2.1 0 6) = Int64.toInt32 (v.2.2.1 0 6) + r ∧ mu_n (v'.2.2.1 0) 40 < mu_n (v.2.2.1 0) 40 ∧ TG v v'
def TN : Nat → (Nat → Int32) → Md → (Nat → Int32) → Md → Prop
  | 0, a, v, a', v' => (∀ i, 2 ≤ i → i ≤ 8 → a' i = a i) ∧ v' = v
  | k + 1, a, v, a', v' => ∃ v1 r fo, TB v v1 r fo ∧ TN k (cu a r (v1.1 2) fo) v1 a' v'
def TT (a : Nat → Int32) (v : Md) (a' : Nat → Int32) (v' : Md) (k : Nat) : Prop := TN k a v a' v'
theorem TT_nil {a a' : Nat → Int32} {v : Md} (h : ∀ i, 2 ≤ i → i ≤ 8 → a' i = a i) : TT a v a' v 0 := ⟨h, rfl⟩
theorem TT_cons {a a' : Nat → Int32} {v v1 v' : Md} {r fo : Int32} {k : Nat} (g : TB v v1 r fo) (t : TT (cu a r (v1.1 2) fo) v1 a' v' k) : TT a v a' v' (k + 1) := ⟨v1, r, fo, g, t⟩
theorem TT_ind {M : (Nat → Int32) → Md → (Nat → Int32) → Md → Nat → Prop} (h0 : ∀ (a a' : Nat → Int32) (v : Md), (∀ i, 2 ≤ i → i ≤ 8 → a' i = a i) → M a v a' v 0) (h1 : ∀ (a a' : Nat → Int32) (v v1 v' : Md) (r fo : Int32) (k : Nat), TB v v1 r fo → TT (cu a r (v1.1 2) fo) v1 a' v' k → M (cu a r (v1.1 2) fo) v1 a' v' k → M a v a' v' (k + 1)) : ∀ (k : Nat) {a a' : Nat → Int32} {v v' : Md}, TT a v a' v' k → M a v a' v' k := by
  intro k
  induction k with
  | zero =>
    intro a a' v v' h
    obtain ⟨g, e⟩ := h
    subst e
    exact h0 a a' _ g
  | succ k ih =>
    intro a a' v v' h
    obtain ⟨v1, r, fo, g, t⟩ := h
    exact h1 a a' v v1 v' r fo k g t (ih t)
theorem TT_mu {a a' : Nat → Int32} {v v' : Md} {k : Nat} (h : TT a v a' v' k) : mu_n (v'.2.2.1 0) 40 + (k : Int) ≤ mu_n (v.2.2.1 0) 40 := by
  refine TT_ind (M := fun a v a' v' k => mu_n (v'.2.2.1 0) 40 + (k : Int) ≤ mu_n (v.2.2.1 0) 40) (fun a a' v g => ?_) (fun a a' v v1 v' r fo k g t ih => ?_) k h
  · omega
  · have := g.2.2.2.2.2.2.1
    omega
theorem TT_c {a b a' : Nat → Int32} {v v' : Md} {k : Nat} (e : ∀ i, 2 ≤ i → i ≤ 8 → b i = a i) (h : TT a v a' v' k) : TT b v a' v' k := by
  cases k with
  | zero => exact ⟨fun i h1 h2 => (h.1 i h1 h2).trans (e i h1 h2).symm, h.2⟩
  | succ k =>
    obtain ⟨v1, r, fo, g, t⟩ := h
    refine TT_cons g ?_
    have q : ∀ r c fo, cu b r c fo = cu a r c fo := fun r c fo => funext (fun i => by
      unfold cu
      rw [e 2 (by decide) (by decide), e 3 (by decide) (by decide), e 4 (by decide) (by decide), e 5 (by decide) (by decide), e 6 (by decide) (by decide), e 7 (by decide) (by decide), e 8 (by decide) (by decide)])
    rw [q]
    exact t
theorem sm_trn_L {post : Mo → Bd → Prop} {z2 : Int32} {N R W D : Int} (hD : 0 < D) (hz : z2.toInt ≤ 9999) : ∀ (n : Nat) (t : Mo) (b : Bd) (v : Md) (z3 : Int32), mb N R W D v → RB b (v.2.2.1 0) → 0 ≤ z3.toInt → z3.toInt ≤ z2.toInt → wp_X2_turn_L6 post (fun t0 t1 z2 z3 => post t0 t1) n t b z2 z3 → ∃ k t' b' v', post t' b' ∧ TT t.1 v t'.1 v' k ∧ RB b' (v'.2.2.1 0) ∧ mb N R W D v' ∧ TG v v' ∧ z3.toInt + (k : Int) ≤ z2.toInt ∧ (z3.toInt + (k : Int) = z2.toInt ∨ IDL (v'.2.2.1 0) R W) := by
  have e1 : (1 : Int32).toInt = 1 := rfl
  have e0 : (0 : Int32).toInt = 0 := rfl
  intro n
  induction n with
  | zero =>
    intro t b v z3 _ _ _ _ h
    exact (show False from h).elim
  | succ n ih =>
    intro t b v z3 hM hB h0 h1 h
    unfold wp_X2_turn_L6 at h
    by_cases c : z2 ≤ z3
    · have := q_le c
      exact ⟨0, t, b, v, h.1 c, TT_nil (fun _ _ _ => rfl), hB, hM, TG_rf v, by omega, Or.inl (by omega)⟩
    · have := q_nle c
      have a := nw (tq_addr e1 z3) (by omega)
      obtain ⟨u, v1, fo, tk, i6, m1, tf, tc, g⟩ := sm_tk hM hD hB (h.2 c) (tk_ex hM hD)
      rcases g with ⟨g1, g2, g3, g4⟩ | ⟨g1, u', b', z', g2, g3, g4, g5, g6, g7⟩
      · refine ⟨0, u, b, v, g2, TT_nil (fun i h1 h2 => i6 i ?_), hB, hM, TG_rf v, by omega, Or.inr g4⟩
        intro q
        rcases List.mem_cons.mp q with q | q
        · omega
        · rcases List.mem_cons.mp q with q | q
          · omega
          · cases q
      · have rpos : 1 ≤ (u.1 0).toInt := by
          have : ¬ (u.1 0).toInt = 0 := fun q => g1 (Int32.toInt_inj.mp (q.trans e0.symm))
          have := tc.2.2.1
          omega
        have tb : TB v v1 (u.1 0) fo := ⟨tk, tc.1, ⟨rpos, tc.2.2.1.2⟩, (by rw [tc.2.1]; exact tc.2.2.2.1), tc.2.2.2.2.1, tc.2.2.2.2.2, (by
          rcases tf.2.2.2 with q | q
          · omega
          · exact q), ⟨tf.1, tf.2.1⟩⟩
        have kk : ∀ i, 2 ≤ i → ¬ i = 8 → u'.1 i = t.1 i := fun i h1 h2 => by
          rw [g4 i h2]
          refine i6 i ?_
          intro q
          rcases List.mem_cons.mp q with q | q
          · omega
          · rcases List.mem_cons.mp q with q | q
            · omega
            · cases q
        have k8 : u'.1 8 = t.1 8 + fo := by
          rw [g5]
          congr 1
          exact i6 8 (by decide)
        have k0 : u'.1 0 = u.1 0 := g4 0 (by decide)
        have k1 : u'.1 1 = v1.1 2 := (g4 1 (by decide)).trans tc.2.1.symm
        unfold wp_X2_countTick at g2
        rw [k0, k1, kk 2 (by decide) (by decide), kk 3 (by decide) (by decide), kk 4 (by decide) (by decide), kk 5 (by decide) (by decide), kk 7 (by decide) (by decide)] at g2
        have fin : ∀ (w : Mo) (s : Bd), (∀ i, 2 ≤ i → i ≤ 8 → w.1 i = cu t.1 (u.1 0) (v1.1 2) fo i) → RB s (v1.2.2.1 0) → wp_X2_turn_L6 post (fun t0 t1 z2 z3 => post t0 t1) n w s z2 (z3 + 1) → ∃ k t' b' v', post t' b' ∧ TT t.1 v t'.1 v' k ∧ RB b' (v'.2.2.1 0) ∧ mb N R W D v' ∧ TG v v' ∧ z3.toInt + (k : Int) ≤ z2.toInt ∧ (z3.toInt + (k : Int) = z2.toInt ∨ IDL (v'.2.2.1 0) R W) := by
          intro w s hw hs h
          obtain ⟨k, t', b', v', r1, r2, r3, r4, r5, r6, r7⟩ := ih w s v1 (z3 + 1) m1 hs (by omega) (by omega) h
          exact ⟨k + 1, t', b', v', r1, TT_cons tb (TT_c (fun i h1 h2 => (hw i h1 h2).symm) r2), r3, r4, TG_tr ⟨tf.1, tf.2.1⟩ r5, by omega, by
            rcases r7 with r7 | r7
            · exact Or.inl (by omega)
            · exact Or.inr r7⟩
        by_cases c2 : u.1 0 * u.1 0 ≤ t.1 7
        · refine fin _ _ (fun i h1 h2 => ?_) ?_ (g2.1 c2)
          · unfold cu
            rcases (show i = 2 ∨ i = 3 ∨ i = 4 ∨ i = 5 ∨ i = 6 ∨ i = 7 ∨ i = 8 by omega) with rfl | rfl | rfl | rfl | rfl | rfl | rfl
            · rfl
            · rfl
            · rfl
            · rfl
            · show u'.1 6 = (if u.1 0 * u.1 0 ≤ t.1 7 then t.1 6 else t.1 2)
              rw [if_pos c2]
              exact kk 6 (by decide) (by decide)
            · show u'.1 7 = (if u.1 0 * u.1 0 ≤ t.1 7 then t.1 7 else _)
              rw [if_pos c2]
              exact kk 7 (by decide) (by decide)
            · exact k8
          · exact g7
        · refine fin _ _ (fun i h1 h2 => ?_) ?_ (g2.2 c2)
          · unfold cu
            rcases (show i = 2 ∨ i = 3 ∨ i = 4 ∨ i = 5 ∨ i = 6 ∨ i = 7 ∨ i = 8 by omega) with rfl | rfl | rfl | rfl | rfl | rfl | rfl
            · rfl
            · rfl
            · rfl
            · rfl
            · show t.1 2 = (if u.1 0 * u.1 0 ≤ t.1 7 then t.1 6 else t.1 2)
              rw [if_neg c2]
            · show u.1 0 * u.1 0 = (if u.1 0 * u.1 0 ≤ t.1 7 then t.1 7 else u.1 0 * u.1 0)
              rw [if_neg c2]
            · exact k8
          · exact g7
