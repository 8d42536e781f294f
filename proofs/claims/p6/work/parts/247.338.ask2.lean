/-! digest, unlike. -/
theorem dg_s {s : Md} {post : Int64 → Prop} {e : Int64 → Int32 → Int32 → Prop} {n : Nat} {w : Int64} {z z4 : Int32} {j : Nat} (h0 : 0 ≤ z.toInt ∧ z.toInt < 40) (hj : z4.toInt = (j : Int)) (hj4 : j ≤ 4) (h : wp_X7_digest_L17 s post e n w z z4) : ∃ n', wp_X7_digest_L17 s post e n' ((31 * w) + (Int32.toInt64 (Int64.toInt32 (s.2.2.1 0 (176 + 8 * z.toInt.toNat + j))))) z (z4 + 1) := by
  have e4 : (4 : Int32).toInt = 4 := rfl
  cases n with
  | zero => exact (show False from h).elim
  | succ n =>
    unfold wp_X7_digest_L17 at h
    exact ⟨n, e7_of (i := j) h0.1 h0.2 hj (by omega) (h.2 (fun c => by have := q_lt c; omega))⟩
theorem sq_digest_L {P6 P7 : Int64 → Prop} {s2 : Bd} {m : Md} {R W D : Int} (hf : rw_ok R W D (m.2.2.1 0)) (hB : RB s2 (m.2.2.1 0)) : ∀ (n6 n7 : Nat) (w : Int64) (z : Int32), 0 ≤ z.toInt → z.toInt ≤ R * W → wp_X6_digest_L6 s2 P6 (fun w _ => P6 w) n6 w z → wp_X7_digest_L6 m P7 (fun w _ => P7 w) n7 w z → ∃ r, P6 r ∧ P7 r := by
  have e1 : (1 : Int32).toInt = 1 := rfl
  have hR := hf.2.2.2.2.2.1
  have rc := RB_cells hf hB
  have rn := rw_n hf
  have ec : Int64.toInt32 (m.2.2.1 0 0) * Int64.toInt32 (m.2.2.1 0 1) = s2.1 0 * s2.1 1 := Int32.toInt_inj.mp (rn.2.2.2.1.trans rc.2.2.1.symm)
  intro n6
  induction n6 with
  | zero =>
    intro n7 w z _ _ h
    exact (show False from h).elim
  | succ n6 ih =>
    intro n7 w z h0 h1 h6 h7
    cases n7 with
    | zero => exact (show False from h7).elim
    | succ n7 =>
      unfold wp_X6_digest_L6 at h6
      unfold wp_X7_digest_L6 at h7
      have h6 := cells6_e h6
      have h7 := cells7_e h7
      rw [ec] at h7
      by_cases c : s2.1 0 * s2.1 1 ≤ z
      · exact ⟨w, h6.1 c, h7.1 c⟩
      · have := q_nle c
        have s := nw (tq_addr e1 z) (by omega)
        have h6 := (h6.2 c).2.2.2.2.2.2
        obtain ⟨n17, h7⟩ := h7.2 c
        have at_ := RB_x (c := z.toInt.toNat) hf hB (by omega)
        rw [tn_i, at_.1, at_.2.1, at_.2.2.1, at_.2.2.2.1, at_.2.2.2.2.1, at_.2.2.2.2.2.2.2] at h6
        obtain ⟨n1, h7⟩ := dg_s (j := 0) ⟨h0, by omega⟩ rfl (by decide) h7
        obtain ⟨n2, h7⟩ := dg_s (j := 1) ⟨h0, by omega⟩ rfl (by decide) h7
        obtain ⟨n3, h7⟩ := dg_s (j := 2) ⟨h0, by omega⟩ rfl (by decide) h7
        obtain ⟨n4, h7⟩ := dg_s (j := 3) ⟨h0, by omega⟩ rfl (by decide) h7
        obtain ⟨n5, h7⟩ := dg_s (j := 4) ⟨h0, by omega⟩ rfl (by decide) h7
        cases n5 with
        | zero => exact (show False from h7).elim
        | succ n5 =>
          unfold wp_X7_digest_L17 at h7
          have h7 := e7_wornOf h0 (by omega) (h7.1 (by decide))
          exact ih n7 _ (z + 1) (by omega) (by omega) h6 h7
theorem sq_digest {P6 P7 : Int64 → Prop} {s2 : Bd} {m : Md} {N R W D : Int} (hB : RB s2 (m.2.2.1 0)) (hM : mb N R W D m) (hs : R ≤ 0 ∨ 0 < D) (h6 : wp_X6_digest P6 s2) (h7 : wp_X7_digest P7 m) : ∃ r, P6 r ∧ P7 r := by
  have hf := hM.2.2.2.2.1
  have hR := hf.2.2.2.2.2.1
  obtain ⟨n6, h6⟩ := h6
  obtain ⟨n7, h7⟩ := h7
  exact sq_digest_L hf hB n6 n7 17 0 (by decide) (by show (0 : Int) ≤ R * W; omega) h6 h7
theorem cell_ix {b : Bd} {f : Nat → Int64} {x z : Int32} {R W D : Int} (hf : rw_ok R W D f) (hB : RB b f) (hx : 0 ≤ x.toInt ∧ x.toInt < R) (hz : 0 ≤ z.toInt ∧ z.toInt < W) : (0 ≤ (x * b.1 1 + z).toInt ∧ (x * b.1 1 + z).toInt < R * W) ∧ Int64.toInt32 (f 1) * x + z = x * b.1 1 + z := by
  have hR := hf.2.2.2.2.2.1
  have rc := RB_cells hf hB
  have rn := rw_n hf
  have k := nrow (R := R) (W := W) (x := x.toInt) hx.1 hx.2 (by omega)
  have ew : Int64.toInt32 (f 1) = b.1 1 := Int32.toInt_inj.mp (rn.2.1.trans rc.2.1.symm)
  have m1 : (x * b.1 1).toInt = x.toInt * W := by
    have := tq_mul x (b.1 1)
    rw [rc.2.1] at this
    exact nw this (by omega)
  have m2 := nw (tq_add (x * b.1 1) z) (by omega)
  exact ⟨⟨by omega, by omega⟩, by rw [ew, Int32.mul_comm]⟩
theorem sq_unlike_L {P6 P7 : Int32 → Prop} {s2 : Bd} {m : Md} {z1 z2 : Int32} {R W D : Int} (hf : rw_ok R W D (m.2.2.1 0)) (hD : 0 < D) (hB : RB s2 (m.2.2.1 0)) (h1 : 0 ≤ z1.toInt ∧ z1.toInt < R) (h2 : 0 ≤ z2.toInt ∧ z2.toInt < R) : ∀ (n6 n7 : Nat) (z3 z4 : Int32), 0 ≤ z4.toInt → z4.toInt ≤ W → wp_X6_unlike_L34 s2 P6 (fun _ _ z _ => P6 z) n6 z1 z2 z3 z4 → wp_X7_unlike_L28 m P7 (fun _ _ z _ => P7 z) n7 z1 z2 z3 z4 → ∃ r, P6 r ∧ P7 r := by
  have e1 : (1 : Int32).toInt = 1 := rfl
  have hR := hf.2.2.2.2.2.1
  have rc := RB_cells hf hB
  have rn := rw_n hf
  have ew : Int64.toInt32 (m.2.2.1 0 1) = s2.1 1 := Int32.toInt_inj.mp (rn.2.1.trans rc.2.1.symm)
  intro n6
  induction n6 with
  | zero =>
    intro n7 z3 z4 _ _ h
    exact (show False from h).elim
  | succ n6 ih =>
    intro n7 z3 z4 h0 h3 h6 h7
    cases n7 with
    | zero => exact (show False from h7).elim
    | succ n7 =>
      unfold wp_X6_unlike_L34 at h6
      unfold wp_X7_unlike_L28 at h7
      have h7 := wide_e h7
      rw [ew] at h7
      by_cases c : s2.1 1 ≤ z4
      · exact ⟨z3, h6.1 c, h7.1 c⟩
      · have := q_nle c
        have s := nw (tq_addr e1 z4) (by omega)
        have i1 := cell_ix hf hB h1 (z := z4) ⟨h0, by omega⟩
        have i2 := cell_ix hf hB h2 (z := z4) ⟨h0, by omega⟩
        have h6 := e0_wantedSign hf hD hB i1.1 (h6.2 c)
        have h6 := e0_wantedSign hf hD hB i2.1 h6
        have h7 := wide_e (h7.2 c)
        rw [i1.2] at h7
        unfold wp_X7_signAt at h7
        have h7 := e7_signAt (j := 3) hf hD i1.1 rfl (by omega) h7
        have h7 := wide_e h7
        rw [i2.2] at h7
        have h7 := e7_signAt (j := 3) hf hD i2.1 rfl (by omega) h7
        by_cases g : WS (m.2.2.1 0) (z1 * s2.1 1 + z4).toInt.toNat 3 = WS (m.2.2.1 0) (z2 * s2.1 1 + z4).toInt.toNat 3
        · have h7 := h7.1 g
          rw [Int32.add_zero] at h7
          exact ih n7 z3 (z4 + 1) (by omega) (by omega) (h6.1 g) h7
        · exact ih n7 (z3 + 1) (z4 + 1) (by omega) (by omega) (h6.2 g) (h7.2 g)
theorem sq_unlike {P6 P7 : Int32 → Prop} {s2 : Bd} {m : Md} {x1 x2 : Int32} {N R W D : Int} (hB : RB s2 (m.2.2.1 0)) (hM : mb N R W D m) (hs : R ≤ 0 ∨ 0 < D) (h6 : wp_X6_unlike P6 s2 x1 x2) (h7 : wp_X7_unlike P7 m x1 x2) : ∃ r, P6 r ∧ P7 r := by
  have hf := hM.2.2.2.2.1
  have hR := hf.2.2.2.2.2.1
  have rc := RB_cells hf hB
  unfold wp_X6_unlike at h6
  unfold wp_X7_unlike at h7
  rcases e0_hasRow h6 with ⟨h6, g1, g2⟩ | ⟨h6, g⟩
  · rcases e7_isRow hf h7 with ⟨h7, _, _⟩ | ⟨_, g⟩
    · rcases e0_hasRow (h6.2 (by decide)) with ⟨h6, g3, g4⟩ | ⟨h6, g⟩
      · rcases e7_isRow hf (h7.2 (by decide)) with ⟨h7, _, _⟩ | ⟨_, g⟩
        · have h6 := h6.2 (by decide)
          have h7 := h7.2 (by decide)
          by_cases c : x1 = x2
          · exact ⟨_, h6.2 c, h7.2 c⟩
          · obtain ⟨n6, h6⟩ := h6.1 c
            obtain ⟨n7, h7⟩ := h7.1 c
            exact sq_unlike_L hf (by omega) hB ⟨g1, by omega⟩ ⟨g3, by omega⟩ n6 n7 0 0 (by decide) (by show (0 : Int) ≤ W; omega) h6 h7
        · omega
      · rcases e7_isRow hf (h7.2 (by decide)) with ⟨_, _, _⟩ | ⟨h7, _⟩
        · omega
        · exact ⟨_, h6.1 rfl, h7.1 rfl⟩
    · omega
  · rcases e7_isRow hf h7 with ⟨_, _, _⟩ | ⟨h7, _⟩
    · omega
    · exact ⟨_, h6.1 rfl, h7.1 rfl⟩
