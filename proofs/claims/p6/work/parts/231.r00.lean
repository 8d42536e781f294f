theorem wq_X7_in {post : Int32 → Prop} {y0 y2 y4 : Int64} (k : ∀ r : Int32, (r.toInt = 1 ∧ y2.toInt ≤ y0.toInt ∧ y0.toInt ≤ y4.toInt) ∨ (r.toInt = 0 ∧ (y0.toInt < y2.toInt ∨ y4.toInt < y0.toInt)) → post r) : wp_X7_in post y0 y2 y4 := by
  unfold wp_X7_in
  have e0 : (0 : Int32).toInt = 0 := rfl
  have e1 : (1 : Int32).toInt = 1 := rfl
  refine ⟨fun c => k _ (Or.inr ⟨e0, Or.inl ?_⟩), fun c => ⟨fun d => k _ (Or.inr ⟨e0, Or.inr ?_⟩), fun d => k _ (Or.inl ⟨e1, ?_, ?_⟩)⟩⟩
  · exact Int64.lt_iff_toInt_lt.mp ((lg_cmp_lt _ _).mp c)
  · exact Int64.lt_iff_toInt_lt.mp ((lg_cmp_gt _ _).mp d)
  · have : ¬ y0.toInt < y2.toInt := fun g => c ((lg_cmp_lt _ _).mpr (Int64.lt_iff_toInt_lt.mpr g))
    omega
  · have : ¬ y4.toInt < y0.toInt := fun g => d ((lg_cmp_gt _ _).mpr (Int64.lt_iff_toInt_lt.mpr g))
    omega
theorem wq_X7_isIn {post : Int32 → Prop} {y0 : Int64} {x2 : Int32} (k : ∀ (r : Int32), (r).toInt = 0 ∨ (r).toInt = 1 → post r) : wp_X7_isIn post y0 x2 := by
  unfold wp_X7_isIn
  refine ⟨fun c100001 => ?_, fun c100002 => ?_⟩
  · have p100003 : (0 : Int32).toInt = 0 ∨ (0 : Int32).toInt = 1 := by (have := li_0; omega)
    exact k _ p100003
  · have p100004 : (1 : Int32).toInt = 0 ∨ (1 : Int32).toInt = 1 := by (have := li_1; omega)
    exact k _ p100004
theorem wq_X7_isSign {post : Int32 → Prop} {x0 : Int32} (k : ∀ (r : Int32), (r).toInt = 0 ∨ ((r).toInt = 1 ∧ 32 ≤ (x0).toInt ∧ (x0).toInt ≤ 126) → post r) : wp_X7_isSign post x0 := by
  unfold wp_X7_isSign
  refine wq_X7_in (fun r_1 q100005 => ?_)
  try simp only [lj_32, lj_126] at q100005
  have := tq_64 x0
  refine ⟨fun c100006 => ?_, fun c100007 => ?_⟩
  · replace c100006 := q_eq c100006
    rw [li_0] at c100006
    have p100008 : (0 : Int32).toInt = 0 ∨ ((0 : Int32).toInt = 1 ∧ 32 ≤ (x0).toInt ∧ (x0).toInt ≤ 126) := by (have := li_0; omega)
    exact k _ p100008
  · replace c100007 := q_neq c100007
    rw [li_0] at c100007
    refine ⟨fun c100009 => ?_, fun c100010 => ?_⟩
    · replace c100009 := q_eq c100009
      rw [li_39] at c100009
      have p100011 : (0 : Int32).toInt = 0 ∨ ((0 : Int32).toInt = 1 ∧ 32 ≤ (x0).toInt ∧ (x0).toInt ≤ 126) := by (have := li_0; omega)
      exact k _ p100011
    · replace c100010 := q_neq c100010
      rw [li_39] at c100010
      have p100012 : (1 : Int32).toInt = 0 ∨ ((1 : Int32).toInt = 1 ∧ 32 ≤ (x0).toInt ∧ (x0).toInt ≤ 126) := by (have := li_1; omega)
      exact k _ p100012
theorem wq_X7_rows {post : Int32 → Prop} {s0 : Md} {N R W D : Int} (h : mb N R W D s0) (k : ∀ r : Int32, r.toInt = R → post r) : wp_X7_rows post s0 := by
  unfold wp_X7_rows
  have a := h.2.2.2.1
  have b : ((s0.2.2.1 0) 0).toInt = R := h.2.2.2.2.1.1
  exact k _ ((w32 (f := s0.2.2.1 0) (i := 0) (by omega)).trans b)
theorem wq_X7_wide {post : Int32 → Prop} {s0 : Md} {N R W D : Int} (h : mb N R W D s0) (k : ∀ r : Int32, r.toInt = W → post r) : wp_X7_wide post s0 := by
  unfold wp_X7_wide
  have a := h.2.2.2.1
  have b : ((s0.2.2.1 0) 1).toInt = W := h.2.2.2.2.1.2.1
  exact k _ ((w32 (f := s0.2.2.1 0) (i := 1) (by omega)).trans b)
theorem wq_X7_cells {post : Int32 → Prop} {s0 : Md} {N R W D : Int} (h : mb N R W D s0) (k : ∀ r : Int32, r.toInt = R * W → post r) : wp_X7_cells post s0 := by
  unfold wp_X7_cells
  have a := h.2.2.2.1
  refine wq_X7_rows h (fun r1 h1 => wq_X7_wide h (fun r3 h3 => k _ ?_))
  have e := tq_mul r1 r3
  rw [h1, h3] at e
  exact nw e (by omega)
theorem wq_X7_drums {post : Int32 → Prop} {s0 : Md} {N R W D : Int} (h : mb N R W D s0) (k : ∀ r : Int32, r.toInt = D → post r) : wp_X7_drums post s0 := by
  unfold wp_X7_drums
  have a := h.2.2.2.1
  have b : ((s0.2.2.1 0) 3).toInt = D := h.2.2.2.2.1.2.2.1
  exact k _ ((w32 (f := s0.2.2.1 0) (i := 3) (by omega)).trans b)
theorem wq_X7_isBoard {post : Int32 → Prop} {s0 : Md} {N R W D : Int} (h100013 : mb (N) (R) (W) (D) s0) (k : ∀ (r : Int32), ((r).toInt = 1 ∧ 0 < D) ∨ ((r).toInt = 0 ∧ D ≤ 0) → post r) : wp_X7_isBoard post s0 := by
  unfold wp_X7_isBoard
  have := h100013.1
  have := h100013.2.1
  have := h100013.2.2.1
  have := h100013.2.2.2.1
  refine wq_X7_drums h100013 (fun r_1 q100014 => ?_)
  refine ⟨fun c100015 => ?_, fun c100016 => ?_⟩
  · replace c100015 := q_le c100015
    rw [li_0] at c100015
    have p100017 : ((0 : Int32).toInt = 1 ∧ 0 < D) ∨ ((0 : Int32).toInt = 0 ∧ D ≤ 0) := by (have := li_0; omega)
    exact k _ p100017
  · replace c100016 := q_nle c100016
    rw [li_0] at c100016
    have p100018 : ((1 : Int32).toInt = 1 ∧ 0 < D) ∨ ((1 : Int32).toInt = 0 ∧ D ≤ 0) := by (have := li_1; omega)
    exact k _ p100018
theorem wq_X7_isCell {post : Int32 → Prop} {s0 : Md} {x1 : Int32} {N R W D : Int} (h100019 : mb (N) (R) (W) (D) s0) (k : ∀ (r : Int32), ((r).toInt = 1 ∧ 0 ≤ (x1).toInt ∧ (x1).toInt < R * W) ∨ ((r).toInt = 0 ∧ ((x1).toInt < 0 ∨ R * W ≤ (x1).toInt)) → post r) : wp_X7_isCell post s0 x1 := by
  unfold wp_X7_isCell
  have := h100019.1
  have := h100019.2.1
  have := h100019.2.2.1
  have := h100019.2.2.2.1
  refine wq_X7_cells h100019 (fun r_1 q100020 => ?_)
  refine wq_X7_in (fun r_3 q100021 => ?_)
  try simp only [lj_0] at q100021
  have := tq_64 x1
  have e100022 := tq_subr li_1 r_1
  try rw [Int.emod_eq_of_lt (show 0 ≤ (r_1).toInt - 1 + 2147483648 by omega) (show (r_1).toInt - 1 + 2147483648 < 4294967296 by omega)] at e100022
  have := tq_64 (r_1 - 1)
  refine ⟨(nb_b (by omega)), ?_⟩
  have p100023 : ((r_3).toInt = 1 ∧ 0 ≤ (x1).toInt ∧ (x1).toInt < R * W) ∨ ((r_3).toInt = 0 ∧ ((x1).toInt < 0 ∨ R * W ≤ (x1).toInt)) := by omega
  exact k _ p100023
theorem wq_X7_isRow {post : Int32 → Prop} {s0 : Md} {x1 : Int32} {N R W D : Int} (h100024 : mb (N) (R) (W) (D) s0) (k : ∀ (r : Int32), ((r).toInt = 1 ∧ 0 ≤ (x1).toInt ∧ (x1).toInt < R) ∨ ((r).toInt = 0 ∧ ((x1).toInt < 0 ∨ R ≤ (x1).toInt)) → post r) : wp_X7_isRow post s0 x1 := by
  unfold wp_X7_isRow
  have := h100024.1
  have := h100024.2.1
  have := h100024.2.2.1
  have := h100024.2.2.2.1
  refine wq_X7_rows h100024 (fun r_1 q100025 => ?_)
  refine wq_X7_in (fun r_3 q100026 => ?_)
  try simp only [lj_0] at q100026
  have := tq_64 x1
  have e100027 := tq_subr li_1 r_1
  try rw [Int.emod_eq_of_lt (show 0 ≤ (r_1).toInt - 1 + 2147483648 by omega) (show (r_1).toInt - 1 + 2147483648 < 4294967296 by omega)] at e100027
  have := tq_64 (r_1 - 1)
  refine ⟨(nb_b (by omega)), ?_⟩
  have p100028 : ((r_3).toInt = 1 ∧ 0 ≤ (x1).toInt ∧ (x1).toInt < R) ∨ ((r_3).toInt = 0 ∧ ((x1).toInt < 0 ∨ R ≤ (x1).toInt)) := by omega
  exact k _ p100028
