/-! Mathematics over the wp: the first rows. -/
theorem wq_X7_in {post : Int32 → Prop} {v lo hi : Int64} (h1 : lo ≤ v ∧ v ≤ hi → post 1) (h0 : ¬ (lo ≤ v ∧ v ≤ hi) → post 0) : wp_X7_in post v lo hi := by
  unfold wp_X7_in
  refine ⟨fun c => h0 ?_, fun c => ⟨fun d => h0 ?_, fun d => h1 ?_⟩⟩
  · intro h
    simp only [lg_cmp_lt] at c
    simp only [Int64.lt_iff_toInt_lt, Int64.le_iff_toInt_le] at c h
    omega
  · intro h
    simp only [lg_cmp_gt] at d
    simp only [Int64.lt_iff_toInt_lt, Int64.le_iff_toInt_le] at d h
    omega
  · simp only [lg_cmp_lt] at c
    simp only [lg_cmp_gt] at d
    simp only [Int64.lt_iff_toInt_lt, Int64.le_iff_toInt_le] at c d ⊢
    omega
/-- end: both answer alike where both tapes are as long, and are as long behind it -/
theorem wq_X6_end {post : Int32 → Tp → Prop} {s : Tp} {x : Int32} (h1 : 0 ≤ x ∧ x ≤ s.1 0 → post x (va_up s.1 0 x, s.2)) (h0 : ¬ (0 ≤ x ∧ x ≤ s.1 0) → post (-1) s) : wp_X6_end post s x := by
  unfold wp_X6_end
  refine ⟨fun c => h0 (fun h => ?_), fun c => ⟨fun d => h1 ⟨?_, d⟩, fun d => h0 (fun h => d h.2)⟩⟩
  · simp only [Int32.lt_iff_toInt_lt, Int32.le_iff_toInt_le, Int32.reduceToInt] at c h
    omega
  · simp only [Int32.lt_iff_toInt_lt, Int32.le_iff_toInt_le, Int32.reduceToInt] at c ⊢
    omega
theorem wq_X7_end {post : Int32 → Md → Prop} {s : Md} {x : Int32} (h1 : 0 ≤ x ∧ x ≤ s.1 5 → post x (va_up s.1 5 x, s.2.1, s.2.2.1, s.2.2.2)) (h0 : ¬ (0 ≤ x ∧ x ≤ s.1 5) → post (-1) s) : wp_X7_end post s x := by
  unfold wp_X7_end
  refine wq_X7_in (fun h => ⟨fun _ => h1 ?_, fun c => absurd c (by decide)⟩) (fun h => ⟨fun c => absurd rfl c, fun _ => h0 (fun g => h ?_)⟩)
  · simp only [Int32.le_iff_toInt_le, Int64.le_iff_toInt_le, Int32.reduceToInt, Int64.reduceToInt, Int32.toInt_toInt64] at h ⊢
    omega
  · simp only [Int32.le_iff_toInt_le, Int64.le_iff_toInt_le, Int32.reduceToInt, Int64.reduceToInt, Int32.toInt_toInt64] at g ⊢
    omega
