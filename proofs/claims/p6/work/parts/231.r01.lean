theorem wq_X7_isDrum {post : Int32 → Prop} {s0 : Md} {x1 : Int32} {N R W D : Int} (h100029 : mb (N) (R) (W) (D) s0) (k : ∀ (r : Int32), ((r).toInt = 1 ∧ 0 ≤ (x1).toInt ∧ (x1).toInt < D) ∨ ((r).toInt = 0 ∧ ((x1).toInt < 0 ∨ D ≤ (x1).toInt)) → post r) : wp_X7_isDrum post s0 x1 := by
  unfold wp_X7_isDrum
  have := h100029.1
  have := h100029.2.1
  have := h100029.2.2.1
  have := h100029.2.2.2.1
  refine wq_X7_drums h100029 (fun r_1 q100030 => ?_)
  refine wq_X7_in (fun r_3 q100031 => ?_)
  try simp only [lj_0] at q100031
  have := tq_64 x1
  have e100032 := tq_subr li_1 r_1
  try rw [Int.emod_eq_of_lt (show 0 ≤ (r_1).toInt - 1 + 2147483648 by omega) (show (r_1).toInt - 1 + 2147483648 < 4294967296 by omega)] at e100032
  have := tq_64 (r_1 - 1)
  refine ⟨(nb_b (by omega)), ?_⟩
  have p100033 : ((r_3).toInt = 1 ∧ 0 ≤ (x1).toInt ∧ (x1).toInt < D) ∨ ((r_3).toInt = 0 ∧ ((x1).toInt < 0 ∨ D ≤ (x1).toInt)) := by omega
  exact k _ p100033
theorem wq_X7_of_0 {post : Int32 → Prop} {s0 : Md} {x1 : Int32} {N R W D : Int} (h : mb N R W D s0) (hx : 0 ≤ x1.toInt ∧ x1.toInt < 40) (k : ∀ r : Int32, r.toInt = cw (s0.2.2.1 0) x1 0 → (0 ≤ r.toInt ∧ r.toInt ≤ 3 ∧ (D ≤ 0 ∨ r.toInt < D)) → post r) : wp_X7_of post s0 x1 (0 : Int32) := by
  unfold wp_X7_of
  have a : (0 : Int32).toInt = 0 := rfl
  have i := ix_c (w := 0) hx (by omega)
  have c := rw_k h.2.2.2.2.1 hx
  have pd := h.2.2.2.1
  have e : (Int64.toInt32 ((s0.2.2.1 0) (Int32.toNatClampNeg ((176 + (8 * x1)) + (0 : Int32))))).toInt = cw (s0.2.2.1 0) x1 0 := by
    rw [i.1]
    exact w32 (f := s0.2.2.1 0) (i := 176 + 8 * x1.toInt.toNat + 0) (show -2147483648 ≤ cw (s0.2.2.1 0) x1 0 ∧ cw (s0.2.2.1 0) x1 0 < 2147483648 by omega)
  exact ⟨vi (by omega) (by omega), k _ e (by omega)⟩
theorem wq_X7_of_1 {post : Int32 → Prop} {s0 : Md} {x1 : Int32} {N R W D : Int} (h : mb N R W D s0) (hx : 0 ≤ x1.toInt ∧ x1.toInt < 40) (k : ∀ r : Int32, r.toInt = cw (s0.2.2.1 0) x1 1 → (0 ≤ r.toInt ∧ r.toInt ≤ 39 ∧ (D ≤ 0 ∨ r.toInt < fl_c (s0.2.2.1 0) x1)) → post r) : wp_X7_of post s0 x1 (1 : Int32) := by
  unfold wp_X7_of
  have a : (1 : Int32).toInt = 1 := rfl
  have i := ix_c (w := 1) hx (by omega)
  have c := rw_k h.2.2.2.2.1 hx
  have pd := h.2.2.2.1
  have e : (Int64.toInt32 ((s0.2.2.1 0) (Int32.toNatClampNeg ((176 + (8 * x1)) + (1 : Int32))))).toInt = cw (s0.2.2.1 0) x1 1 := by
    rw [i.1]
    exact w32 (f := s0.2.2.1 0) (i := 176 + 8 * x1.toInt.toNat + 1) (show -2147483648 ≤ cw (s0.2.2.1 0) x1 1 ∧ cw (s0.2.2.1 0) x1 1 < 2147483648 by omega)
  exact ⟨vi (by omega) (by omega), k _ e (by omega)⟩
theorem wq_X7_of_2 {post : Int32 → Prop} {s0 : Md} {x1 : Int32} {N R W D : Int} (h : mb N R W D s0) (hx : 0 ≤ x1.toInt ∧ x1.toInt < 40) (k : ∀ r : Int32, r.toInt = cw (s0.2.2.1 0) x1 2 → (0 ≤ r.toInt ∧ r.toInt ≤ 39 ∧ (D ≤ 0 ∨ r.toInt < fl_c (s0.2.2.1 0) x1)) → post r) : wp_X7_of post s0 x1 (2 : Int32) := by
  unfold wp_X7_of
  have a : (2 : Int32).toInt = 2 := rfl
  have i := ix_c (w := 2) hx (by omega)
  have c := rw_k h.2.2.2.2.1 hx
  have pd := h.2.2.2.1
  have e : (Int64.toInt32 ((s0.2.2.1 0) (Int32.toNatClampNeg ((176 + (8 * x1)) + (2 : Int32))))).toInt = cw (s0.2.2.1 0) x1 2 := by
    rw [i.1]
    exact w32 (f := s0.2.2.1 0) (i := 176 + 8 * x1.toInt.toNat + 2) (show -2147483648 ≤ cw (s0.2.2.1 0) x1 2 ∧ cw (s0.2.2.1 0) x1 2 < 2147483648 by omega)
  exact ⟨vi (by omega) (by omega), k _ e (by omega)⟩
theorem wq_X7_of_3 {post : Int32 → Prop} {s0 : Md} {x1 : Int32} {N R W D : Int} (h : mb N R W D s0) (hx : 0 ≤ x1.toInt ∧ x1.toInt < 40) (k : ∀ r : Int32, r.toInt = cw (s0.2.2.1 0) x1 3 → (0 ≤ r.toInt ∧ r.toInt ≤ 39 ∧ (D ≤ 0 ∨ r.toInt < fl_c (s0.2.2.1 0) x1)) → post r) : wp_X7_of post s0 x1 (3 : Int32) := by
  unfold wp_X7_of
  have a : (3 : Int32).toInt = 3 := rfl
  have i := ix_c (w := 3) hx (by omega)
  have c := rw_k h.2.2.2.2.1 hx
  have pd := h.2.2.2.1
  have e : (Int64.toInt32 ((s0.2.2.1 0) (Int32.toNatClampNeg ((176 + (8 * x1)) + (3 : Int32))))).toInt = cw (s0.2.2.1 0) x1 3 := by
    rw [i.1]
    exact w32 (f := s0.2.2.1 0) (i := 176 + 8 * x1.toInt.toNat + 3) (show -2147483648 ≤ cw (s0.2.2.1 0) x1 3 ∧ cw (s0.2.2.1 0) x1 3 < 2147483648 by omega)
  exact ⟨vi (by omega) (by omega), k _ e (by omega)⟩
theorem wq_X7_of_4 {post : Int32 → Prop} {s0 : Md} {x1 : Int32} {N R W D : Int} (h : mb N R W D s0) (hx : 0 ≤ x1.toInt ∧ x1.toInt < 40) (k : ∀ r : Int32, r.toInt = cw (s0.2.2.1 0) x1 4 → (0 ≤ r.toInt ∧ r.toInt ≤ 9) → post r) : wp_X7_of post s0 x1 (4 : Int32) := by
  unfold wp_X7_of
  have a : (4 : Int32).toInt = 4 := rfl
  have i := ix_c (w := 4) hx (by omega)
  have c := rw_k h.2.2.2.2.1 hx
  have pd := h.2.2.2.1
  have e : (Int64.toInt32 ((s0.2.2.1 0) (Int32.toNatClampNeg ((176 + (8 * x1)) + (4 : Int32))))).toInt = cw (s0.2.2.1 0) x1 4 := by
    rw [i.1]
    exact w32 (f := s0.2.2.1 0) (i := 176 + 8 * x1.toInt.toNat + 4) (show -2147483648 ≤ cw (s0.2.2.1 0) x1 4 ∧ cw (s0.2.2.1 0) x1 4 < 2147483648 by omega)
  exact ⟨vi (by omega) (by omega), k _ e (by omega)⟩
theorem wq_X7_of_g {post : Int32 → Prop} {s0 : Md} {x1 x2 : Int32} {N R W D : Int} (h : mb N R W D s0) (hx : 0 ≤ x1.toInt ∧ x1.toInt < 40) (hw : 0 ≤ x2.toInt ∧ x2.toInt ≤ 7) (k : ∀ r : Int32, post r) : wp_X7_of post s0 x1 x2 := by
  unfold wp_X7_of
  have i := ix_c hx hw
  exact ⟨vi (by omega) (by omega), k _⟩
theorem wq_X7_sets_1 {post : Md → Prop} {s0 : Md} {x1 : Int32} {y3 : Int64} {N R W D : Int} (h : mb N R W D s0) (hx : 0 ≤ x1.toInt ∧ x1.toInt < 40) (hv : 0 ≤ y3.toInt ∧ ((D ≤ 0 ∧ y3.toInt = 0) ∨ (0 < D ∧ y3.toInt < fl_c (s0.2.2.1 0) x1))) (k : ∀ u : Md, mb N R W D u → ie [] u.1 s0.1 → u.2.1 = s0.2.1 ∧ u.2.2.2 = s0.2.2.2 ∧ u.2.2.1 0 = vp_updL (s0.2.2.1 0) (176 + 8 * x1.toInt.toNat + 1) y3 → post u) : wp_X7_sets post s0 x1 (1 : Int32) y3 := by
  unfold wp_X7_sets
  have a : (1 : Int32).toInt = 1 := rfl
  have i := ix_c (w := 1) hx (by omega)
  refine ⟨vi (by omega) (by omega), ?_⟩
  have e : Int32.toNatClampNeg ((176 + (8 * x1)) + (1 : Int32)) = 176 + 8 * x1.toInt.toNat + 1 := i.1
  rw [e]
  refine k _ (mb_now h rfl (fun k hk => ?_) rfl ?_) (ie_refl _ _) ⟨rfl, rfl, rfl⟩
  · show (if k = 0 then _ else s0.2.2.1 k) = _
    rw [if_neg hk]
  · exact rw_sj (j := 1) h.2.2.2.2.1 (by omega) (by omega) hv.1 (fun g => by omega) (fun g => (show y3.toInt < fl_c (s0.2.2.1 0) x1 by omega))
theorem wq_X7_sets_2 {post : Md → Prop} {s0 : Md} {x1 : Int32} {y3 : Int64} {N R W D : Int} (h : mb N R W D s0) (hx : 0 ≤ x1.toInt ∧ x1.toInt < 40) (hv : 0 ≤ y3.toInt ∧ ((D ≤ 0 ∧ y3.toInt = 0) ∨ (0 < D ∧ y3.toInt < fl_c (s0.2.2.1 0) x1))) (k : ∀ u : Md, mb N R W D u → ie [] u.1 s0.1 → u.2.1 = s0.2.1 ∧ u.2.2.2 = s0.2.2.2 ∧ u.2.2.1 0 = vp_updL (s0.2.2.1 0) (176 + 8 * x1.toInt.toNat + 2) y3 → post u) : wp_X7_sets post s0 x1 (2 : Int32) y3 := by
  unfold wp_X7_sets
  have a : (2 : Int32).toInt = 2 := rfl
  have i := ix_c (w := 2) hx (by omega)
  refine ⟨vi (by omega) (by omega), ?_⟩
  have e : Int32.toNatClampNeg ((176 + (8 * x1)) + (2 : Int32)) = 176 + 8 * x1.toInt.toNat + 2 := i.1
  rw [e]
  refine k _ (mb_now h rfl (fun k hk => ?_) rfl ?_) (ie_refl _ _) ⟨rfl, rfl, rfl⟩
  · show (if k = 0 then _ else s0.2.2.1 k) = _
    rw [if_neg hk]
  · exact rw_sj (j := 2) h.2.2.2.2.1 (by omega) (by omega) hv.1 (fun g => by omega) (fun g => (show y3.toInt < fl_c (s0.2.2.1 0) x1 by omega))
theorem wq_X7_sets_3 {post : Md → Prop} {s0 : Md} {x1 : Int32} {y3 : Int64} {N R W D : Int} (h : mb N R W D s0) (hx : 0 ≤ x1.toInt ∧ x1.toInt < 40) (hv : 0 ≤ y3.toInt ∧ ((D ≤ 0 ∧ y3.toInt = 0) ∨ (0 < D ∧ y3.toInt < fl_c (s0.2.2.1 0) x1))) (k : ∀ u : Md, mb N R W D u → ie [] u.1 s0.1 → u.2.1 = s0.2.1 ∧ u.2.2.2 = s0.2.2.2 ∧ u.2.2.1 0 = vp_updL (s0.2.2.1 0) (176 + 8 * x1.toInt.toNat + 3) y3 → post u) : wp_X7_sets post s0 x1 (3 : Int32) y3 := by
  unfold wp_X7_sets
  have a : (3 : Int32).toInt = 3 := rfl
  have i := ix_c (w := 3) hx (by omega)
  refine ⟨vi (by omega) (by omega), ?_⟩
  have e : Int32.toNatClampNeg ((176 + (8 * x1)) + (3 : Int32)) = 176 + 8 * x1.toInt.toNat + 3 := i.1
  rw [e]
  refine k _ (mb_now h rfl (fun k hk => ?_) rfl ?_) (ie_refl _ _) ⟨rfl, rfl, rfl⟩
  · show (if k = 0 then _ else s0.2.2.1 k) = _
    rw [if_neg hk]
  · exact rw_sj (j := 3) h.2.2.2.2.1 (by omega) (by omega) hv.1 (fun g => by omega) (fun g => (show y3.toInt < fl_c (s0.2.2.1 0) x1 by omega))
