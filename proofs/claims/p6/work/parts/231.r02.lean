theorem wq_X7_sets_4 {post : Md → Prop} {s0 : Md} {x1 : Int32} {y3 : Int64} {N R W D : Int} (h : mb N R W D s0) (hx : 0 ≤ x1.toInt ∧ x1.toInt < 40) (hv : 0 ≤ y3.toInt ∧ y3.toInt ≤ 9) (k : ∀ u : Md, mb N R W D u → ie [] u.1 s0.1 → u.2.1 = s0.2.1 ∧ u.2.2.2 = s0.2.2.2 ∧ u.2.2.1 0 = vp_updL (s0.2.2.1 0) (176 + 8 * x1.toInt.toNat + 4) y3 → post u) : wp_X7_sets post s0 x1 (4 : Int32) y3 := by
  unfold wp_X7_sets
  have a : (4 : Int32).toInt = 4 := rfl
  have i := ix_c (w := 4) hx (by omega)
  refine ⟨vi (by omega) (by omega), ?_⟩
  have e : Int32.toNatClampNeg ((176 + (8 * x1)) + (4 : Int32)) = 176 + 8 * x1.toInt.toNat + 4 := i.1
  rw [e]
  refine k _ (mb_now h rfl (fun k hk => ?_) rfl ?_) (ie_refl _ _) ⟨rfl, rfl, rfl⟩
  · show (if k = 0 then _ else s0.2.2.1 k) = _
    rw [if_neg hk]
  · exact rw_s4 h.2.2.2.2.1 (by omega) hv
theorem wq_X7_sets_5 {post : Md → Prop} {s0 : Md} {x1 : Int32} {y3 : Int64} {N R W D : Int} (h : mb N R W D s0) (hx : 0 ≤ x1.toInt ∧ x1.toInt < 40) (k : ∀ u : Md, mb N R W D u → ie [] u.1 s0.1 → u.2.1 = s0.2.1 ∧ u.2.2.2 = s0.2.2.2 ∧ u.2.2.1 0 = vp_updL (s0.2.2.1 0) (176 + 8 * x1.toInt.toNat + 5) y3 → post u) : wp_X7_sets post s0 x1 (5 : Int32) y3 := by
  unfold wp_X7_sets
  have a : (5 : Int32).toInt = 5 := rfl
  have i := ix_c (w := 5) hx (by omega)
  refine ⟨vi (by omega) (by omega), ?_⟩
  have e : Int32.toNatClampNeg ((176 + (8 * x1)) + (5 : Int32)) = 176 + 8 * x1.toInt.toNat + 5 := i.1
  rw [e]
  refine k _ (mb_now h rfl (fun k hk => ?_) rfl ?_) (ie_refl _ _) ⟨rfl, rfl, rfl⟩
  · show (if k = 0 then _ else s0.2.2.1 k) = _
    rw [if_neg hk]
  · exact rw_irr h.2.2.2.2.1 (by unfold rw_rel; omega)
theorem wq_X7_sets_6 {post : Md → Prop} {s0 : Md} {x1 : Int32} {y3 : Int64} {N R W D : Int} (h : mb N R W D s0) (hx : 0 ≤ x1.toInt ∧ x1.toInt < 40) (k : ∀ u : Md, mb N R W D u → ie [] u.1 s0.1 → u.2.1 = s0.2.1 ∧ u.2.2.2 = s0.2.2.2 ∧ u.2.2.1 0 = vp_updL (s0.2.2.1 0) (176 + 8 * x1.toInt.toNat + 6) y3 → post u) : wp_X7_sets post s0 x1 (6 : Int32) y3 := by
  unfold wp_X7_sets
  have a : (6 : Int32).toInt = 6 := rfl
  have i := ix_c (w := 6) hx (by omega)
  refine ⟨vi (by omega) (by omega), ?_⟩
  have e : Int32.toNatClampNeg ((176 + (8 * x1)) + (6 : Int32)) = 176 + 8 * x1.toInt.toNat + 6 := i.1
  rw [e]
  refine k _ (mb_now h rfl (fun k hk => ?_) rfl ?_) (ie_refl _ _) ⟨rfl, rfl, rfl⟩
  · show (if k = 0 then _ else s0.2.2.1 k) = _
    rw [if_neg hk]
  · exact rw_irr h.2.2.2.2.1 (by unfold rw_rel; omega)
theorem wq_X7_sets_7 {post : Md → Prop} {s0 : Md} {x1 : Int32} {y3 : Int64} {N R W D : Int} (h : mb N R W D s0) (hx : 0 ≤ x1.toInt ∧ x1.toInt < 40) (k : ∀ u : Md, mb N R W D u → ie [] u.1 s0.1 → u.2.1 = s0.2.1 ∧ u.2.2.2 = s0.2.2.2 ∧ u.2.2.1 0 = vp_updL (s0.2.2.1 0) (176 + 8 * x1.toInt.toNat + 7) y3 → post u) : wp_X7_sets post s0 x1 (7 : Int32) y3 := by
  unfold wp_X7_sets
  have a : (7 : Int32).toInt = 7 := rfl
  have i := ix_c (w := 7) hx (by omega)
  refine ⟨vi (by omega) (by omega), ?_⟩
  have e : Int32.toNatClampNeg ((176 + (8 * x1)) + (7 : Int32)) = 176 + 8 * x1.toInt.toNat + 7 := i.1
  rw [e]
  refine k _ (mb_now h rfl (fun k hk => ?_) rfl ?_) (ie_refl _ _) ⟨rfl, rfl, rfl⟩
  · show (if k = 0 then _ else s0.2.2.1 k) = _
    rw [if_neg hk]
  · exact rw_irr h.2.2.2.2.1 (by unfold rw_rel; omega)
theorem wq_X7_wornOf {post : Int64 → Prop} {s0 : Md} {x1 : Int32} (hx : 0 ≤ x1.toInt ∧ x1.toInt < 40) (k : ∀ r : Int64, post r) : wp_X7_wornOf post s0 x1 := by
  unfold wp_X7_wornOf
  have a : (7 : Int32).toInt = 7 := rfl
  have i := ix_c (w := 7) hx (by omega)
  exact ⟨vi (by omega) (by omega), k _⟩
theorem wq_X7_currentOf {post : Int32 → Prop} {s0 : Md} {x1 : Int32} (hx : 0 ≤ x1.toInt ∧ x1.toInt < 4) (k : ∀ r : Int32, post r) : wp_X7_currentOf post s0 x1 := by
  unfold wp_X7_currentOf
  have i := ix_d hx
  exact ⟨vi (by omega) (by omega), k _⟩
theorem wq_X7_flapsOf {post : Int32 → Prop} {s0 : Md} {x1 : Int32} {N R W D : Int} (h : mb N R W D s0) (hx : 0 ≤ x1.toInt ∧ x1.toInt < 4) (k : ∀ r : Int32, D ≤ x1.toInt ∨ (r.toInt = d_f (s0.2.2.1 0) x1.toInt.toNat ∧ 2 ≤ r.toInt ∧ r.toInt ≤ 40) → post r) : wp_X7_flapsOf post s0 x1 := by
  unfold wp_X7_flapsOf
  have i := ix_d1 hx
  refine ⟨vi (by omega) (by omega), k _ ?_⟩
  by_cases g : D ≤ x1.toInt
  · exact Or.inl g
  · have q := h.2.2.2.2.1.2.2.2.2.2.2.1 x1.toInt.toNat (by omega)
    have e : (Int64.toInt32 ((s0.2.2.1 0) (Int32.toNatClampNeg ((8 + (42 * x1)) + 1)))).toInt = d_f (s0.2.2.1 0) x1.toInt.toNat := by
      rw [i.1]
      exact w32 (f := s0.2.2.1 0) (i := 8 + 42 * x1.toInt.toNat + 1) (show -2147483648 ≤ d_f (s0.2.2.1 0) x1.toInt.toNat ∧ d_f (s0.2.2.1 0) x1.toInt.toNat < 2147483648 by omega)
    exact Or.inr ⟨e, by omega, by omega⟩
theorem wq_X7_signOf {post : Int32 → Prop} {s0 : Md} {x1 x2 : Int32} (hx : 0 ≤ x1.toInt ∧ x1.toInt < 4) (hy : 0 ≤ x2.toInt ∧ x2.toInt < 40) (k : ∀ r : Int32, post r) : wp_X7_signOf post s0 x1 x2 := by
  unfold wp_X7_signOf
  have i := ix_s hx hy
  exact ⟨vi (by omega) (by omega), k _⟩
theorem wq_X7_flaps {post : Int32 → Prop} {s0 : Md} {x1 : Int32} {N R W D : Int} (h : mb N R W D s0) (hx : 0 ≤ x1.toInt ∧ x1.toInt < 40) (k : ∀ r : Int32, D ≤ 0 ∨ (r.toInt = fl_c (s0.2.2.1 0) x1 ∧ 2 ≤ r.toInt ∧ r.toInt ≤ 40) → post r) : wp_X7_flaps post s0 x1 := by
  unfold wp_X7_flaps
  refine wq_X7_of_0 h hx (fun r h1 h2 => wq_X7_flapsOf h (by omega) (fun r3 h3 => k _ ?_))
  by_cases g : D ≤ 0
  · exact Or.inl g
  · rcases h3 with h3 | h3
    · omega
    · refine Or.inr ⟨?_, h3.2⟩
      have e := h3.1
      rw [h1] at e
      exact e
theorem wq_X7_current {post : Int32 → Prop} {s0 : Md} {x1 : Int32} {N R W D : Int} (h100034 : mb (N) (R) (W) (D) s0) (h100035 : 0 ≤ (x1).toInt ∧ (x1).toInt < 40) (k : ∀ (r : Int32), post r) : wp_X7_current post s0 x1 := by
  unfold wp_X7_current
  have := h100034.1
  have := h100034.2.1
  have := h100034.2.2.1
  have := h100034.2.2.2.1
  have p100036 : 0 ≤ (x1).toInt ∧ (x1).toInt < 40 := by omega
  refine wq_X7_of_0 h100034 p100036 (fun r_1 q100037 q100038 => ?_)
  have p100039 : 0 ≤ (r_1).toInt ∧ (r_1).toInt < 4 := by omega
  refine wq_X7_currentOf p100039 (fun r_3 => ?_)
  exact k _
