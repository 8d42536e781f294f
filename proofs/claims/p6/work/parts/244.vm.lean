theorem vm_feed {l : Launch} {D : va_G} {q : Nat → ClassId} {h : Nat} {w : va_W} {N : Int} {x1 x2 x3 x4 x5 : Int32} (hI : m_I N q h w) : un_i l D q 6 yX7_feed cX7_feed 6 (some .int) ({ frames := 1, cells := 0, slots := 0, locals := 22 } : Room) h [.int x1, .int x2, .int x3, .int x4, .int x5] 0 0 w (fun r w3 => ∃ M, m_I M q h w3 ∧ ((r.toInt = M ∧ M = N + 20 ∧ N + 20 ≤ 400) ∨ (r.toInt = -1 ∧ M = N ∧ 400 < N + 20))) := by
  intro sz
  obtain ⟨b, s, R, W, D9, e1, e2, k1, k2⟩ := hI
  subst e1
  refine ⟨_, _, [], _, _, _, c2_X7_feed (post := fun r u => ∃ M R W D9, mb M R W D9 u ∧ (R ≤ 0 ∨ 0 < D9) ∧ ((r.toInt = M ∧ M = N + 20 ∧ N + 20 ≤ 400) ∨ (r.toInt = -1 ∧ M = N ∧ 400 < N + 20))) (wq_X7_feed k1 (fun r u M b0 b1 => ⟨M, R, W, D9, b0, k2, b1⟩)), rfl, by rw [e2, List.append_nil], fun r u hu => ?_⟩
  obtain ⟨M, R2, W2, D2, g1, g2, g3⟩ := hu
  exact ⟨_, ⟨M, ⟨b, u, R2, W2, D2, rfl, rfl, g1, g2⟩, g3⟩, by rw [List.append_nil]⟩
theorem vm_end {l : Launch} {D : va_G} {q : Nat → ClassId} {h : Nat} {w : va_W} {N : Int} {x1 : Int32} (hI : m_I N q h w) : un_i l D q 6 yX7_end cX7_end 2 (some .int) ({ frames := 1, cells := 0, slots := 0, locals := 25 } : Room) h [.int x1] 0 0 w (fun r w3 => ∃ M, m_I M q h w3 ∧ ((r.toInt = x1.toInt ∧ M = x1.toInt ∧ 0 ≤ x1.toInt ∧ x1.toInt ≤ N) ∨ (r.toInt = -1 ∧ M = N ∧ (x1.toInt < 0 ∨ N < x1.toInt)))) := by
  intro sz
  obtain ⟨b, s, R, W, D9, e1, e2, k1, k2⟩ := hI
  subst e1
  refine ⟨_, _, [], _, _, _, c2_X7_end (post := fun r u => ∃ M R W D9, mb M R W D9 u ∧ (R ≤ 0 ∨ 0 < D9) ∧ ((r.toInt = x1.toInt ∧ M = x1.toInt ∧ 0 ≤ x1.toInt ∧ x1.toInt ≤ N) ∨ (r.toInt = -1 ∧ M = N ∧ (x1.toInt < 0 ∨ N < x1.toInt)))) (wq_X7_end k1 (fun r u M b0 b1 => ⟨M, R, W, D9, b0, k2, b1⟩)), rfl, by rw [e2, List.append_nil], fun r u hu => ?_⟩
  obtain ⟨M, R2, W2, D2, g1, g2, g3⟩ := hu
  exact ⟨_, ⟨M, ⟨b, u, R2, W2, D2, rfl, rfl, g1, g2⟩, g3⟩, by rw [List.append_nil]⟩
theorem vm_tell {l : Launch} {D : va_G} {q : Nat → ClassId} {h : Nat} {w : va_W} {N : Int} (hI : m_I N q h w) : un_i l D q 6 yX7_tell cX7_tell 2 (some .int) ({ frames := 8, cells := 0, slots := 0, locals := 171 } : Room) h [] 0 0 w (fun r w3 => ∃ M, m_I M q h w3 ∧ M = 0) := by
  intro sz
  obtain ⟨b, s, R, W, D9, e1, e2, k1, k2⟩ := hI
  subst e1
  refine ⟨_, _, [], _, _, _, c2_X7_tell (post := fun r u => ∃ M R W D9, mb M R W D9 u ∧ (R ≤ 0 ∨ 0 < D9) ∧ M = 0) (wq_X7_tell k1 k2 (fun r u R4 W4 D4 b0 b1 => ⟨0, R4, W4, D4, b0, b1, rfl⟩)), rfl, by rw [e2, List.append_nil], fun r u hu => ?_⟩
  obtain ⟨M, R2, W2, D2, g1, g2, g3⟩ := hu
  exact ⟨_, ⟨M, ⟨b, u, R2, W2, D2, rfl, rfl, g1, g2⟩, g3⟩, by rw [List.append_nil]⟩
theorem vm_row {l : Launch} {D : va_G} {q : Nat → ClassId} {h : Nat} {w : va_W} {N : Int} {x1 : Int32} (hI : m_I N q h w) : un_i l D q 6 yX7_row cX7_row 3 (some .int) ({ frames := 4, cells := 0, slots := 0, locals := 95 } : Room) h [.int x1] 0 0 w (fun r w3 => ∃ M, m_I M q h w3 ∧ M = 0) := by
  intro sz
  obtain ⟨b, s, R, W, D9, e1, e2, k1, k2⟩ := hI
  subst e1
  refine ⟨_, _, [], _, _, _, c2_X7_row (post := fun r u => ∃ M R W D9, mb M R W D9 u ∧ (R ≤ 0 ∨ 0 < D9) ∧ M = 0) (wq_X7_row k1 k2 (fun r u b0 => ⟨0, R, W, D9, b0, k2, rfl⟩)), rfl, by rw [e2, List.append_nil], fun r u hu => ?_⟩
  obtain ⟨M, R2, W2, D2, g1, g2, g3⟩ := hu
  exact ⟨_, ⟨M, ⟨b, u, R2, W2, D2, rfl, rfl, g1, g2⟩, g3⟩, by rw [List.append_nil]⟩
theorem vm_scroll {l : Launch} {D : va_G} {q : Nat → ClassId} {h : Nat} {w : va_W} {N : Int} (hI : m_I N q h w) : un_i l D q 6 yX7_scroll cX7_scroll 2 (some .int) ({ frames := 5, cells := 0, slots := 0, locals := 120 } : Room) h [] 0 0 w (fun r w3 => ∃ M, m_I M q h w3 ∧ M = 0) := by
  intro sz
  obtain ⟨b, s, R, W, D9, e1, e2, k1, k2⟩ := hI
  subst e1
  refine ⟨_, _, [], _, _, _, c2_X7_scroll (post := fun r u => ∃ M R W D9, mb M R W D9 u ∧ (R ≤ 0 ∨ 0 < D9) ∧ M = 0) (wq_X7_scroll k1 k2 (fun r u b0 => ⟨0, R, W, D9, b0, k2, rfl⟩)), rfl, by rw [e2, List.append_nil], fun r u hu => ?_⟩
  obtain ⟨M, R2, W2, D2, g1, g2, g3⟩ := hu
  exact ⟨_, ⟨M, ⟨b, u, R2, W2, D2, rfl, rfl, g1, g2⟩, g3⟩, by rw [List.append_nil]⟩
theorem vm_tick {l : Launch} {D : va_G} {q : Nat → ClassId} {h : Nat} {w : va_W} {N : Int} {x1 : Int32} (hI : m_I N q h w) : un_i l D q 6 yX7_tick cX7_tick 4 (some .int) ({ frames := 5, cells := 0, slots := 0, locals := 110 } : Room) h [.int x1] 0 0 w (fun r w3 => ∃ M, m_I M q h w3 ∧ M = N) := by
  intro sz
  obtain ⟨b, s, R, W, D9, e1, e2, k1, k2⟩ := hI
  subst e1
  refine ⟨_, _, [], _, _, _, c2_X7_tick (post := fun r u => ∃ M R W D9, mb M R W D9 u ∧ (R ≤ 0 ∨ 0 < D9) ∧ M = N) (wq_X7_tick k1 k2 (fun r u b0 => ⟨N, R, W, D9, b0, k2, rfl⟩)), rfl, by rw [e2, List.append_nil], fun r u hu => ?_⟩
  obtain ⟨M, R2, W2, D2, g1, g2, g3⟩ := hu
  exact ⟨_, ⟨M, ⟨b, u, R2, W2, D2, rfl, rfl, g1, g2⟩, g3⟩, by rw [List.append_nil]⟩
theorem vm_settle {l : Launch} {D : va_G} {q : Nat → ClassId} {h : Nat} {w : va_W} {N : Int} (hI : m_I N q h w) : un_i l D q 6 yX7_settle cX7_settle 1 (some .int) ({ frames := 6, cells := 0, slots := 0, locals := 131 } : Room) h [] 0 0 w (fun r w3 => ∃ M, m_I M q h w3 ∧ M = N) := by
  intro sz
  obtain ⟨b, s, R, W, D9, e1, e2, k1, k2⟩ := hI
  subst e1
  refine ⟨_, _, [], _, _, _, c2_X7_settle (post := fun r u => ∃ M R W D9, mb M R W D9 u ∧ (R ≤ 0 ∨ 0 < D9) ∧ M = N) (wq_X7_settle k1 k2 (fun r u b0 => ⟨N, R, W, D9, b0, k2, rfl⟩)), rfl, by rw [e2, List.append_nil], fun r u hu => ?_⟩
  obtain ⟨M, R2, W2, D2, g1, g2, g3⟩ := hu
  exact ⟨_, ⟨M, ⟨b, u, R2, W2, D2, rfl, rfl, g1, g2⟩, g3⟩, by rw [List.append_nil]⟩
theorem vm_lose {l : Launch} {D : va_G} {q : Nat → ClassId} {h : Nat} {w : va_W} {N : Int} {x1 x2 : Int32} (hI : m_I N q h w) : un_i l D q 6 yX7_lose cX7_lose 4 (some .int) ({ frames := 3, cells := 0, slots := 0, locals := 61 } : Room) h [.int x1, .int x2] 0 0 w (fun r w3 => ∃ M, m_I M q h w3 ∧ M = N) := by
  intro sz
  obtain ⟨b, s, R, W, D9, e1, e2, k1, k2⟩ := hI
  subst e1
  refine ⟨_, _, [], _, _, _, c2_X7_lose (post := fun r u => ∃ M R W D9, mb M R W D9 u ∧ (R ≤ 0 ∨ 0 < D9) ∧ M = N) (wq_X7_lose k1 k2 (fun r u b0 => ⟨N, R, W, D9, b0, k2, rfl⟩)), rfl, by rw [e2, List.append_nil], fun r u hu => ?_⟩
  obtain ⟨M, R2, W2, D2, g1, g2, g3⟩ := hu
  exact ⟨_, ⟨M, ⟨b, u, R2, W2, D2, rfl, rfl, g1, g2⟩, g3⟩, by rw [List.append_nil]⟩
theorem vm_wear {l : Launch} {D : va_G} {q : Nat → ClassId} {h : Nat} {w : va_W} {N : Int} {x1 x2 : Int32} (hI : m_I N q h w) : un_i l D q 6 yX7_wear cX7_wear 3 (some .int) ({ frames := 4, cells := 0, slots := 0, locals := 83 } : Room) h [.int x1, .int x2] 0 0 w (fun r w3 => ∃ M, m_I M q h w3 ∧ M = N) := by
  intro sz
  obtain ⟨b, s, R, W, D9, e1, e2, k1, k2⟩ := hI
  subst e1
  refine ⟨_, _, [], _, _, _, c2_X7_wear (post := fun r u => ∃ M R W D9, mb M R W D9 u ∧ (R ≤ 0 ∨ 0 < D9) ∧ M = N) (wq_X7_wear k1 k2 (fun r u b0 => ⟨N, R, W, D9, b0, k2, rfl⟩)), rfl, by rw [e2, List.append_nil], fun r u hu => ?_⟩
  obtain ⟨M, R2, W2, D2, g1, g2, g3⟩ := hu
  exact ⟨_, ⟨M, ⟨b, u, R2, W2, D2, rfl, rfl, g1, g2⟩, g3⟩, by rw [List.append_nil]⟩
theorem vm_mend {l : Launch} {D : va_G} {q : Nat → ClassId} {h : Nat} {w : va_W} {N : Int} {x1 x2 : Int32} (hI : m_I N q h w) : un_i l D q 6 yX7_mend cX7_mend 3 (some .int) ({ frames := 4, cells := 0, slots := 0, locals := 83 } : Room) h [.int x1, .int x2] 0 0 w (fun r w3 => ∃ M, m_I M q h w3 ∧ M = N) := by
  intro sz
  obtain ⟨b, s, R, W, D9, e1, e2, k1, k2⟩ := hI
  subst e1
  refine ⟨_, _, [], _, _, _, c2_X7_mend (post := fun r u => ∃ M R W D9, mb M R W D9 u ∧ (R ≤ 0 ∨ 0 < D9) ∧ M = N) (wq_X7_mend k1 k2 (fun r u b0 => ⟨N, R, W, D9, b0, k2, rfl⟩)), rfl, by rw [e2, List.append_nil], fun r u hu => ?_⟩
  obtain ⟨M, R2, W2, D2, g1, g2, g3⟩ := hu
  exact ⟨_, ⟨M, ⟨b, u, R2, W2, D2, rfl, rfl, g1, g2⟩, g3⟩, by rw [List.append_nil]⟩
theorem vm_limit {l : Launch} {D : va_G} {q : Nat → ClassId} {h : Nat} {w : va_W} {N : Int} {x1 : Int32} (hI : m_I N q h w) : un_i l D q 6 yX7_limit cX7_limit 3 (some .int) ({ frames := 2, cells := 0, slots := 0, locals := 40 } : Room) h [.int x1] 0 0 w (fun r w3 => ∃ M, m_I M q h w3 ∧ M = N) := by
  intro sz
  obtain ⟨b, s, R, W, D9, e1, e2, k1, k2⟩ := hI
  subst e1
  refine ⟨_, _, [], _, _, _, c2_X7_limit (post := fun r u => ∃ M R W D9, mb M R W D9 u ∧ (R ≤ 0 ∨ 0 < D9) ∧ M = N) (wq_X7_limit k1 k2 (fun r u b0 => ⟨N, R, W, D9, b0, k2, rfl⟩)), rfl, by rw [e2, List.append_nil], fun r u hu => ?_⟩
  obtain ⟨M, R2, W2, D2, g1, g2, g3⟩ := hu
  exact ⟨_, ⟨M, ⟨b, u, R2, W2, D2, rfl, rfl, g1, g2⟩, g3⟩, by rw [List.append_nil]⟩
theorem vm_exchange {l : Launch} {D : va_G} {q : Nat → ClassId} {h : Nat} {w : va_W} {N : Int} {x1 x2 x3 : Int32} (hI : m_I N q h w) : un_i l D q 6 yX7_exchange cX7_exchange 8 (some .int) ({ frames := 2, cells := 0, slots := 0, locals := 46 } : Room) h [.int x1, .int x2, .int x3] 0 0 w (fun r w3 => ∃ M, m_I M q h w3 ∧ M = N) := by
  intro sz
  obtain ⟨b, s, R, W, D9, e1, e2, k1, k2⟩ := hI
  subst e1
  refine ⟨_, _, [], _, _, _, c2_X7_exchange (post := fun r u => ∃ M R W D9, mb M R W D9 u ∧ (R ≤ 0 ∨ 0 < D9) ∧ M = N) (wq_X7_exchange k1 k2 (fun r u b0 => ⟨N, R, W, D9, b0, k2, rfl⟩)), rfl, by rw [e2, List.append_nil], fun r u hu => ?_⟩
  obtain ⟨M, R2, W2, D2, g1, g2, g3⟩ := hu
  exact ⟨_, ⟨M, ⟨b, u, R2, W2, D2, rfl, rfl, g1, g2⟩, g3⟩, by rw [List.append_nil]⟩
theorem vm_run {l : Launch} {D : va_G} {q : Nat → ClassId} {h : Nat} {w : va_W} {N : Int} (hI : m_I N q h w) : un_i l D q 6 yX7_run cX7_run 2 (some .int) ({ frames := 19, cells := 0, slots := 0, locals := 417 } : Room) h [] 0 0 w (fun r w3 => ∃ M, m_I M q h w3 ∧ M = 0) := by
  intro sz
  obtain ⟨b, s, R, W, D9, e1, e2, k1, k2⟩ := hI
  subst e1
  refine ⟨_, _, [], _, _, _, c2_X7_run (post := fun r u => ∃ M R W D9, mb M R W D9 u ∧ (R ≤ 0 ∨ 0 < D9) ∧ M = 0) (wq_X7_run k1 k2 (fun r u b0 => ⟨0, R, W, D9, b0, k2, rfl⟩)), rfl, by rw [e2, List.append_nil], fun r u hu => ?_⟩
  obtain ⟨M, R2, W2, D2, g1, g2, g3⟩ := hu
  exact ⟨_, ⟨M, ⟨b, u, R2, W2, D2, rfl, rfl, g1, g2⟩, g3⟩, by rw [List.append_nil]⟩
theorem vm_undo {l : Launch} {D : va_G} {q : Nat → ClassId} {h : Nat} {w : va_W} {N : Int} (hI : m_I N q h w) : un_i l D q 6 yX7_undo cX7_undo 2 (some .int) ({ frames := 0, cells := 0, slots := 0, locals := 0 } : Room) h [] 0 0 w (fun r w3 => ∃ M, m_I M q h w3 ∧ M = N) := by
  intro sz
  obtain ⟨b, s, R, W, D9, e1, e2, k1, k2⟩ := hI
  subst e1
  refine ⟨_, _, [], _, _, _, c2_X7_undo (post := fun r u => ∃ M R W D9, mb M R W D9 u ∧ (R ≤ 0 ∨ 0 < D9) ∧ M = N) (wq_X7_undo k1 k2 (fun r u R4 W4 D4 b0 b1 => ⟨N, R4, W4, D4, b0, b1, rfl⟩)), rfl, by rw [e2, List.append_nil], fun r u hu => ?_⟩
  obtain ⟨M, R2, W2, D2, g1, g2, g3⟩ := hu
  exact ⟨_, ⟨M, ⟨b, u, R2, W2, D2, rfl, rfl, g1, g2⟩, g3⟩, by rw [List.append_nil]⟩
theorem vm_keep {l : Launch} {D : va_G} {q : Nat → ClassId} {h : Nat} {w : va_W} {N : Int} {x1 : Int32} (hI : m_I N q h w) : un_i l D q 6 yX7_keep cX7_keep 3 (some .int) ({ frames := 2, cells := 0, slots := 0, locals := 40 } : Room) h [.int x1] 0 0 w (fun r w3 => ∃ M, m_I M q h w3 ∧ M = N) := by
  intro sz
  obtain ⟨b, s, R, W, D9, e1, e2, k1, k2⟩ := hI
  subst e1
  refine ⟨_, _, [], _, _, _, c2_X7_keep (post := fun r u => ∃ M R W D9, mb M R W D9 u ∧ (R ≤ 0 ∨ 0 < D9) ∧ M = N) (wq_X7_keep k1 k2 (fun r u b0 => ⟨N, R, W, D9, b0, k2, rfl⟩)), rfl, by rw [e2, List.append_nil], fun r u hu => ?_⟩
  obtain ⟨M, R2, W2, D2, g1, g2, g3⟩ := hu
  exact ⟨_, ⟨M, ⟨b, u, R2, W2, D2, rfl, rfl, g1, g2⟩, g3⟩, by rw [List.append_nil]⟩
theorem vm_back {l : Launch} {D : va_G} {q : Nat → ClassId} {h : Nat} {w : va_W} {N : Int} {x1 : Int32} (hI : m_I N q h w) : un_i l D q 6 yX7_back cX7_back 3 (some .int) ({ frames := 2, cells := 0, slots := 0, locals := 40 } : Room) h [.int x1] 0 0 w (fun r w3 => ∃ M, m_I M q h w3 ∧ M = N) := by
  intro sz
  obtain ⟨b, s, R, W, D9, e1, e2, k1, k2⟩ := hI
  subst e1
  refine ⟨_, _, [], _, _, _, c2_X7_back (post := fun r u => ∃ M R W D9, mb M R W D9 u ∧ (R ≤ 0 ∨ 0 < D9) ∧ M = N) (wq_X7_back k1 k2 (fun r u R4 W4 D4 b0 b1 => ⟨N, R4, W4, D4, b0, b1, rfl⟩)), rfl, by rw [e2, List.append_nil], fun r u hu => ?_⟩
  obtain ⟨M, R2, W2, D2, g1, g2, g3⟩ := hu
  exact ⟨_, ⟨M, ⟨b, u, R2, W2, D2, rfl, rfl, g1, g2⟩, g3⟩, by rw [List.append_nil]⟩
theorem vm_cell {l : Launch} {D : va_G} {q : Nat → ClassId} {h : Nat} {w : va_W} {N : Int} {x1 x2 : Int32} (hI : m_I N q h w) : un_ri l D q 6 yX7_cell cX7_cell 3 (some .int) ({ frames := 3, cells := 0, slots := 0, locals := 64 } : Room) h [.int x1, .int x2] w (fun _ => True) := by
  obtain ⟨b, s, R, W, D9, e1, e2, k1, k2⟩ := hI
  subst e1
  exact ⟨_, [], _, c2_X7_cell (post := fun _ => True) (wq_X7_cell k1 k2 (fun _ => trivial)), rfl, by rw [e2, List.append_nil]⟩
theorem vm_worn {l : Launch} {D : va_G} {q : Nat → ClassId} {h : Nat} {w : va_W} {N : Int} {x1 : Int32} (hI : m_I N q h w) : un_rl l D q 6 yX7_worn cX7_worn 2 (some .long) ({ frames := 3, cells := 0, slots := 0, locals := 61 } : Room) h [.int x1] w (fun _ => True) := by
  obtain ⟨b, s, R, W, D9, e1, e2, k1, k2⟩ := hI
  subst e1
  exact ⟨_, [], _, c2_X7_worn (post := fun _ => True) (wq_X7_worn k1 (fun _ => trivial)), rfl, by rw [e2, List.append_nil]⟩
theorem vm_drum {l : Launch} {D : va_G} {q : Nat → ClassId} {h : Nat} {w : va_W} {N : Int} {x1 x2 : Int32} (hI : m_I N q h w) : un_ri l D q 6 yX7_drum cX7_drum 3 (some .int) ({ frames := 3, cells := 0, slots := 0, locals := 71 } : Room) h [.int x1, .int x2] w (fun _ => True) := by
  obtain ⟨b, s, R, W, D9, e1, e2, k1, k2⟩ := hI
  subst e1
  exact ⟨_, [], _, c2_X7_drum (post := fun _ => True) (wq_X7_drum k1 (fun _ => trivial)), rfl, by rw [e2, List.append_nil]⟩
theorem vm_sign {l : Launch} {D : va_G} {q : Nat → ClassId} {h : Nat} {w : va_W} {N : Int} {x1 x2 : Int32} (hI : m_I N q h w) : un_ri l D q 6 yX7_sign cX7_sign 3 (some .int) ({ frames := 2, cells := 0, slots := 0, locals := 46 } : Room) h [.int x1, .int x2] w (fun _ => True) := by
  obtain ⟨b, s, R, W, D9, e1, e2, k1, k2⟩ := hI
  subst e1
  exact ⟨_, [], _, c2_X7_sign (post := fun _ => True) (wq_X7_sign k1 (fun _ => trivial)), rfl, by rw [e2, List.append_nil]⟩
theorem vm_at {l : Launch} {D : va_G} {q : Nat → ClassId} {h : Nat} {w : va_W} {N : Int} {x1 x2 x3 : Int32} (hI : m_I N q h w) : un_ri l D q 6 yX7_at cX7_at 4 (some .int) ({ frames := 2, cells := 0, slots := 0, locals := 46 } : Room) h [.int x1, .int x2, .int x3] w (fun _ => True) := by
  obtain ⟨b, s, R, W, D9, e1, e2, k1, k2⟩ := hI
  subst e1
  exact ⟨_, [], _, c2_X7_at (post := fun _ => True) (wq_X7_at k1 k2 (fun _ => trivial)), rfl, by rw [e2, List.append_nil]⟩
theorem vm_which {l : Launch} {D : va_G} {q : Nat → ClassId} {h : Nat} {w : va_W} {N : Int} {x1 : Int32} (hI : m_I N q h w) : un_l l D q 6 yX7_which cX7_which 5 (some .long) ({ frames := 4, cells := 0, slots := 0, locals := 89 } : Room) h [.int x1] 0 0 w (fun r w3 => ∃ M, m_I M q h w3 ∧ M = N) := by
  intro sz
  obtain ⟨b, s, R, W, D9, e1, e2, k1, k2⟩ := hI
  subst e1
  refine ⟨_, _, [], _, _, _, c2_X7_which (post := fun r u => ∃ M R W D9, mb M R W D9 u ∧ (R ≤ 0 ∨ 0 < D9) ∧ M = N) (wq_X7_which k1 k2 (fun r u b0 => ⟨N, R, W, D9, b0, k2, rfl⟩)), rfl, by rw [e2, List.append_nil], fun r u hu => ?_⟩
  obtain ⟨M, R2, W2, D2, g1, g2, g3⟩ := hu
  exact ⟨_, ⟨M, ⟨b, u, R2, W2, D2, rfl, rfl, g1, g2⟩, g3⟩, by rw [List.append_nil]⟩
theorem vm_left {l : Launch} {D : va_G} {q : Nat → ClassId} {h : Nat} {w : va_W} {N : Int} {x1 : Int32} (hI : m_I N q h w) : un_ri l D q 6 yX7_left cX7_left 6 (some .int) ({ frames := 3, cells := 0, slots := 0, locals := 64 } : Room) h [.int x1] w (fun _ => True) := by
  obtain ⟨b, s, R, W, D9, e1, e2, k1, k2⟩ := hI
  subst e1
  exact ⟨_, [], _, c2_X7_left (post := fun _ => True) (wq_X7_left k1 (fun _ => trivial)), rfl, by rw [e2, List.append_nil]⟩
theorem vm_when {l : Launch} {D : va_G} {q : Nat → ClassId} {h : Nat} {w : va_W} {N : Int} {x1 : Int32} (hI : m_I N q h w) : un_i l D q 6 yX7_when cX7_when 8 (some .int) ({ frames := 5, cells := 0, slots := 0, locals := 110 } : Room) h [.int x1] 0 0 w (fun r w3 => ∃ M, m_I M q h w3 ∧ M = N) := by
  intro sz
  obtain ⟨b, s, R, W, D9, e1, e2, k1, k2⟩ := hI
  subst e1
  refine ⟨_, _, [], _, _, _, c2_X7_when (post := fun r u => ∃ M R W D9, mb M R W D9 u ∧ (R ≤ 0 ∨ 0 < D9) ∧ M = N) (wq_X7_when k1 k2 (fun r u R4 W4 D4 b0 b1 => ⟨N, R4, W4, D4, b0, b1, rfl⟩)), rfl, by rw [e2, List.append_nil], fun r u hu => ?_⟩
  obtain ⟨M, R2, W2, D2, g1, g2, g3⟩ := hu
  exact ⟨_, ⟨M, ⟨b, u, R2, W2, D2, rfl, rfl, g1, g2⟩, g3⟩, by rw [List.append_nil]⟩
theorem vm_loudest {l : Launch} {D : va_G} {q : Nat → ClassId} {h : Nat} {w : va_W} {N : Int} {x1 : Int32} (hI : m_I N q h w) : un_i l D q 6 yX7_loudest cX7_loudest 5 (some .int) ({ frames := 5, cells := 0, slots := 0, locals := 110 } : Room) h [.int x1] 0 0 w (fun r w3 => ∃ M, m_I M q h w3 ∧ M = N) := by
  intro sz
  obtain ⟨b, s, R, W, D9, e1, e2, k1, k2⟩ := hI
  subst e1
  refine ⟨_, _, [], _, _, _, c2_X7_loudest (post := fun r u => ∃ M R W D9, mb M R W D9 u ∧ (R ≤ 0 ∨ 0 < D9) ∧ M = N) (wq_X7_loudest k1 k2 (fun r u R4 W4 D4 b0 b1 => ⟨N, R4, W4, D4, b0, b1, rfl⟩)), rfl, by rw [e2, List.append_nil], fun r u hu => ?_⟩
  obtain ⟨M, R2, W2, D2, g1, g2, g3⟩ := hu
  exact ⟨_, ⟨M, ⟨b, u, R2, W2, D2, rfl, rfl, g1, g2⟩, g3⟩, by rw [List.append_nil]⟩
theorem vm_total {l : Launch} {D : va_G} {q : Nat → ClassId} {h : Nat} {w : va_W} {N : Int} {x1 : Int32} (hI : m_I N q h w) : un_ri l D q 6 yX7_total cX7_total 2 (some .int) ({ frames := 2, cells := 0, slots := 0, locals := 40 } : Room) h [.int x1] w (fun _ => True) := by
  obtain ⟨b, s, R, W, D9, e1, e2, k1, k2⟩ := hI
  subst e1
  exact ⟨_, [], _, c2_X7_total (post := fun _ => True) (wq_X7_total k1 (fun _ => trivial)), rfl, by rw [e2, List.append_nil]⟩
theorem vm_cost {l : Launch} {D : va_G} {q : Nat → ClassId} {h : Nat} {w : va_W} {N : Int} {x1 : Int32} (hI : m_I N q h w) : un_i l D q 6 yX7_cost cX7_cost 2 (some .int) ({ frames := 4, cells := 0, slots := 0, locals := 95 } : Room) h [.int x1] 0 0 w (fun r w3 => ∃ M, m_I M q h w3 ∧ M = N) := by
  intro sz
  obtain ⟨b, s, R, W, D9, e1, e2, k1, k2⟩ := hI
  subst e1
  refine ⟨_, _, [], _, _, _, c2_X7_cost (post := fun r u => ∃ M R W D9, mb M R W D9 u ∧ (R ≤ 0 ∨ 0 < D9) ∧ M = N) (wq_X7_cost k1 k2 (fun r u b0 => ⟨N, R, W, D9, b0, k2, rfl⟩)), rfl, by rw [e2, List.append_nil], fun r u hu => ?_⟩
  obtain ⟨M, R2, W2, D2, g1, g2, g3⟩ := hu
  exact ⟨_, ⟨M, ⟨b, u, R2, W2, D2, rfl, rfl, g1, g2⟩, g3⟩, by rw [List.append_nil]⟩
theorem vm_best {l : Launch} {D : va_G} {q : Nat → ClassId} {h : Nat} {w : va_W} {N : Int} {x1 x2 : Int32} (hI : m_I N q h w) : un_i l D q 6 yX7_best cX7_best 9 (some .int) ({ frames := 4, cells := 0, slots := 0, locals := 95 } : Room) h [.int x1, .int x2] 0 0 w (fun r w3 => ∃ M, m_I M q h w3 ∧ M = N) := by
  intro sz
  obtain ⟨b, s, R, W, D9, e1, e2, k1, k2⟩ := hI
  subst e1
  refine ⟨_, _, [], _, _, _, c2_X7_best (post := fun r u => ∃ M R W D9, mb M R W D9 u ∧ (R ≤ 0 ∨ 0 < D9) ∧ M = N) (wq_X7_best k1 k2 (fun r u b0 => ⟨N, R, W, D9, b0, k2, rfl⟩)), rfl, by rw [e2, List.append_nil], fun r u hu => ?_⟩
  obtain ⟨M, R2, W2, D2, g1, g2, g3⟩ := hu
  exact ⟨_, ⟨M, ⟨b, u, R2, W2, D2, rfl, rfl, g1, g2⟩, g3⟩, by rw [List.append_nil]⟩
theorem vm_place {l : Launch} {D : va_G} {q : Nat → ClassId} {h : Nat} {w : va_W} {N : Int} {x1 x2 : Int32} (hI : m_I N q h w) : un_i l D q 6 yX7_place cX7_place 7 (some .int) ({ frames := 4, cells := 0, slots := 0, locals := 95 } : Room) h [.int x1, .int x2] 0 0 w (fun r w3 => ∃ M, m_I M q h w3 ∧ M = N) := by
  intro sz
  obtain ⟨b, s, R, W, D9, e1, e2, k1, k2⟩ := hI
  subst e1
  refine ⟨_, _, [], _, _, _, c2_X7_place (post := fun r u => ∃ M R W D9, mb M R W D9 u ∧ (R ≤ 0 ∨ 0 < D9) ∧ M = N) (wq_X7_place k1 k2 (fun r u b0 => ⟨N, R, W, D9, b0, k2, rfl⟩)), rfl, by rw [e2, List.append_nil], fun r u hu => ?_⟩
  obtain ⟨M, R2, W2, D2, g1, g2, g3⟩ := hu
  exact ⟨_, ⟨M, ⟨b, u, R2, W2, D2, rfl, rfl, g1, g2⟩, g3⟩, by rw [List.append_nil]⟩
theorem vm_log {l : Launch} {D : va_G} {q : Nat → ClassId} {h : Nat} {w : va_W} {N : Int} {x1 x2 : Int32} (hI : m_I N q h w) : un_ri l D q 6 yX7_log cX7_log 3 (some .int) ({ frames := 2, cells := 0, slots := 0, locals := 50 } : Room) h [.int x1, .int x2] w (fun _ => True) := by
  obtain ⟨b, s, R, W, D9, e1, e2, k1, k2⟩ := hI
  subst e1
  exact ⟨_, [], _, c2_X7_log (post := fun _ => True) (wq_X7_log k1 (fun _ => trivial)), rfl, by rw [e2, List.append_nil]⟩
theorem vm_often {l : Launch} {D : va_G} {q : Nat → ClassId} {h : Nat} {w : va_W} {N : Int} {x1 x2 x3 : Int32} (hI : m_I N q h w) : un_ri l D q 6 yX7_often cX7_often 6 (some .int) ({ frames := 2, cells := 0, slots := 0, locals := 46 } : Room) h [.int x1, .int x2, .int x3] w (fun _ => True) := by
  obtain ⟨b, s, R, W, D9, e1, e2, k1, k2⟩ := hI
  subst e1
  exact ⟨_, [], _, c2_X7_often (post := fun _ => True) (wq_X7_often k1 (fun _ => trivial)), rfl, by rw [e2, List.append_nil]⟩
theorem vm_usual {l : Launch} {D : va_G} {q : Nat → ClassId} {h : Nat} {w : va_W} {N : Int} {x1 x2 : Int32} (hI : m_I N q h w) : un_ri l D q 6 yX7_usual cX7_usual 6 (some .int) ({ frames := 3, cells := 0, slots := 0, locals := 71 } : Room) h [.int x1, .int x2] w (fun _ => True) := by
  obtain ⟨b, s, R, W, D9, e1, e2, k1, k2⟩ := hI
  subst e1
  exact ⟨_, [], _, c2_X7_usual (post := fun _ => True) (wq_X7_usual k1 (fun _ => trivial)), rfl, by rw [e2, List.append_nil]⟩
theorem vm_better {l : Launch} {D : va_G} {q : Nat → ClassId} {h : Nat} {w : va_W} {N : Int} {x1 x2 : Int32} (hI : m_I N q h w) : un_ri l D q 6 yX7_better cX7_better 9 (some .int) ({ frames := 2, cells := 0, slots := 0, locals := 50 } : Room) h [.int x1, .int x2] w (fun _ => True) := by
  obtain ⟨b, s, R, W, D9, e1, e2, k1, k2⟩ := hI
  subst e1
  exact ⟨_, [], _, c2_X7_better (post := fun _ => True) (wq_X7_better k1 (fun _ => trivial)), rfl, by rw [e2, List.append_nil]⟩
theorem vm_farthest {l : Launch} {D : va_G} {q : Nat → ClassId} {h : Nat} {w : va_W} {N : Int} {x1 x2 : Int32} (hI : m_I N q h w) : un_ri l D q 6 yX7_farthest cX7_farthest 7 (some .int) ({ frames := 3, cells := 0, slots := 0, locals := 67 } : Room) h [.int x1, .int x2] w (fun _ => True) := by
  obtain ⟨b, s, R, W, D9, e1, e2, k1, k2⟩ := hI
  subst e1
  exact ⟨_, [], _, c2_X7_farthest (post := fun _ => True) (wq_X7_farthest k1 k2 (fun _ => trivial)), rfl, by rw [e2, List.append_nil]⟩
theorem vm_lacks {l : Launch} {D : va_G} {q : Nat → ClassId} {h : Nat} {w : va_W} {N : Int} {x1 x2 : Int32} (hI : m_I N q h w) : un_ri l D q 6 yX7_lacks cX7_lacks 6 (some .int) ({ frames := 3, cells := 0, slots := 0, locals := 69 } : Room) h [.int x1, .int x2] w (fun _ => True) := by
  obtain ⟨b, s, R, W, D9, e1, e2, k1, k2⟩ := hI
  subst e1
  exact ⟨_, [], _, c2_X7_lacks (post := fun _ => True) (wq_X7_lacks k1 k2 (fun _ => trivial)), rfl, by rw [e2, List.append_nil]⟩
theorem vm_rests {l : Launch} {D : va_G} {q : Nat → ClassId} {h : Nat} {w : va_W} {N : Int} {x1 : Int32} (hI : m_I N q h w) : un_i l D q 6 yX7_rests cX7_rests 4 (some .int) ({ frames := 5, cells := 0, slots := 0, locals := 110 } : Room) h [.int x1] 0 0 w (fun r w3 => ∃ M, m_I M q h w3 ∧ M = N) := by
  intro sz
  obtain ⟨b, s, R, W, D9, e1, e2, k1, k2⟩ := hI
  subst e1
  refine ⟨_, _, [], _, _, _, c2_X7_rests (post := fun r u => ∃ M R W D9, mb M R W D9 u ∧ (R ≤ 0 ∨ 0 < D9) ∧ M = N) (wq_X7_rests k1 k2 (fun r u R4 W4 D4 b0 b1 => ⟨N, R4, W4, D4, b0, b1, rfl⟩)), rfl, by rw [e2, List.append_nil], fun r u hu => ?_⟩
  obtain ⟨M, R2, W2, D2, g1, g2, g3⟩ := hu
  exact ⟨_, ⟨M, ⟨b, u, R2, W2, D2, rfl, rfl, g1, g2⟩, g3⟩, by rw [List.append_nil]⟩
theorem vm_unlike {l : Launch} {D : va_G} {q : Nat → ClassId} {h : Nat} {w : va_W} {N : Int} {x1 x2 : Int32} (hI : m_I N q h w) : un_ri l D q 6 yX7_unlike cX7_unlike 5 (some .int) ({ frames := 2, cells := 0, slots := 0, locals := 46 } : Room) h [.int x1, .int x2] w (fun _ => True) := by
  obtain ⟨b, s, R, W, D9, e1, e2, k1, k2⟩ := hI
  subst e1
  exact ⟨_, [], _, c2_X7_unlike (post := fun _ => True) (wq_X7_unlike k1 k2 (fun _ => trivial)), rfl, by rw [e2, List.append_nil]⟩
theorem vm_letter {l : Launch} {D : va_G} {q : Nat → ClassId} {h : Nat} {w : va_W} {N : Int} {x1 x2 : Int32} (hI : m_I N q h w) : un_ri l D q 6 yX7_letter cX7_letter 5 (some .int) ({ frames := 2, cells := 0, slots := 0, locals := 44 } : Room) h [.int x1, .int x2] w (fun _ => True) := by
  obtain ⟨b, s, R, W, D9, e1, e2, k1, k2⟩ := hI
  subst e1
  exact ⟨_, [], _, c2_X7_letter (post := fun _ => True) (wq_X7_letter k1 k2 (fun _ => trivial)), rfl, by rw [e2, List.append_nil]⟩
theorem vm_digest {l : Launch} {D : va_G} {q : Nat → ClassId} {h : Nat} {w : va_W} {N : Int} (hI : m_I N q h w) : un_rl l D q 6 yX7_digest cX7_digest 5 (some .long) ({ frames := 2, cells := 0, slots := 0, locals := 40 } : Room) h [] w (fun _ => True) := by
  obtain ⟨b, s, R, W, D9, e1, e2, k1, k2⟩ := hI
  subst e1
  exact ⟨_, [], _, c2_X7_digest (post := fun _ => True) (wq_X7_digest k1 (fun _ => trivial)), rfl, by rw [e2, List.append_nil]⟩
theorem vm_count {l : Launch} {D : va_G} {q : Nat → ClassId} {h : Nat} {w : va_W} {N : Int} {x1 : Int32} (hI : m_I N q h w) : un_i l D q 6 yX7_count cX7_count 2 (some .int) ({ frames := 4, cells := 0, slots := 0, locals := 89 } : Room) h [.int x1] 0 0 w (fun r w3 => ∃ M, m_I M q h w3 ∧ M = N) := by
  intro sz
  obtain ⟨b, s, R, W, D9, e1, e2, k1, k2⟩ := hI
  subst e1
  refine ⟨_, _, [], _, _, _, c2_X7_count (post := fun r u => ∃ M R W D9, mb M R W D9 u ∧ (R ≤ 0 ∨ 0 < D9) ∧ M = N) (wq_X7_count k1 k2 (fun r u b0 => ⟨N, R, W, D9, b0, k2, rfl⟩)), rfl, by rw [e2, List.append_nil], fun r u hu => ?_⟩
  obtain ⟨M, R2, W2, D2, g1, g2, g3⟩ := hu
  exact ⟨_, ⟨M, ⟨b, u, R2, W2, D2, rfl, rfl, g1, g2⟩, g3⟩, by rw [List.append_nil]⟩
