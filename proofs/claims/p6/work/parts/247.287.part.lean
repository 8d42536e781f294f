/-! One part; all of a board's text. -/
theorem e7_y {P : Int32 → Md → Prop} {i : Nat} {v : Md} (hs : (v.1 6).toInt ≤ (v.1 5).toInt) (hb : ¬ tb7 v (v.1 6) = 32) (hw : wd_y v i) (h : wp_X7_isWord P v i) : P 1 v := by
  rcases e7_isWord hs hb h with ⟨a, _⟩ | ⟨_, b⟩
  · exact a
  · exact absurd hw b
theorem e7_no {P : Int32 → Md → Prop} {i : Nat} {v : Md} (hs : (v.1 6).toInt ≤ (v.1 5).toInt) (hb : ¬ tb7 v (v.1 6) = 32) (hw : ¬ wd_y v i) (h : wp_X7_isWord P v i) : P 0 v := by
  rcases e7_isWord hs hb h with ⟨_, b⟩ | ⟨a, _⟩
  · exact absurd b hw
  · exact a
theorem sm_part {P6 : Bd → Tp → Prop} {P7 : Int32 → Md → Prop} {b : Bd} {t : Tp} {s : Md} {R W D : Int} (hR : RT t s) (hB : RB b (s.2.2.1 0)) (hf : rw_ok R W D (s.2.2.1 0)) (h6 : wp_X1_readPart P6 b t) (h7 : wp_X7_nextByte (fun _ u => wp_X7_readsPart P7 u) s) : ∃ b' t' r v', P6 b' t' ∧ P7 r v' ∧ OUT b' t' r v' := by
  have rn := rw_n hf
  unfold wp_X1_readPart wp_X5_takeWord at h6
  obtain ⟨u, v, a1, a2, a3, a4, a5, a6, _⟩ := sm_peek hR h6 h7
  obtain ⟨n6, a1⟩ := a1
  obtain ⟨r, w, h6, fr, cw⟩ := sm_word_core a3 a1
  have CWr := cw
  obtain ⟨c1, c2, c3, c4, c5, c6, c7, c8⟩ := cw
  have fv : v.2 = s.2 := a4.2.2.2
  have hBv : RB b (v.2.2.1 0) := by rw [fv]; exact hB
  have hfv : rw_ok R W D (v.2.2.1 0) := by rw [fv]; exact hf
  have rv := rw_n hfv
  have bb := c1.2.2
  have d6 : b.1 3 = Int64.toInt32 (v.2.2.1 0 3) := hBv.1.2.2.2
  have td : (b.1 3).toInt = D := by rw [d6]; exact rv.2.2.1
  have e0 : (0 : Int32).toInt = 0 := rfl
  have e3 : (3 : Int32).toInt = 3 := rfl
  have e4 : (4 : Int32).toInt = 4 := rfl
  have e5 : (5 : Int32).toInt = 5 := rfl
  have e6 : (6 : Int32).toInt = 6 := rfl
  have e7 : (7 : Int32).toInt = 7 := rfl
  unfold wp_X7_readsPart at a2
  have nt : ∀ {i j : Nat}, i < 12 → j < 12 → ¬ i = j → wd_y v j → ¬ wd_y v i := fun {i j} hi hj hn g g2 => by
    have := (c7 i hi).mpr g2
    have := (c7 j hj).mpr g
    omega
  have flt : ∀ {kk : Int32} {Q : Int32 → Md → Prop} {E6 : Tp → Prop}, 1 ≤ kk.toInt → kk.toInt ≤ 4 → wp_X5_blame (fun u_5 => wp_X5_isSound (fun r_6 => ((¬ r_6 = 0 → E6 u_5) ∧ (r_6 = 0 → P6 b u_5))) u_5) w (w.1 2) kk → wp_X7_fails (fun r_33 u_34 => narrow .boolean (.int r_33) = .int r_33 ∧ P7 r_33 u_34) v kk (v.1 6) → ∃ b' t' r v', P6 b' t' ∧ P7 r v' ∧ OUT b' t' r v' := by
    intro kk Q E6 g1 g2 k6 k7
    obtain ⟨x, y, b1, b2, b3, b4⟩ := sm_fault c5 c2 c3 (by omega) g1 g2 k6 k7
    exact ⟨b, x, 0, y, (fa_sound b4 b1).2 rfl, b2.2, Or.inr ⟨rfl, b4⟩⟩
  have eq : ∀ {k : Int32}, r.toInt = k.toInt → r = k := fun {k} g => Int32.toInt_inj.mp g
  have snd : ∀ {Q : Prop} {E6 : Prop}, wp_X5_isSound (fun r_6 => ((¬ r_6 = 0 → E6) ∧ (r_6 = 0 → P6 b w))) w → E6 := fun {Q E6} k => ((e5_isSound k).1 c5).1 (by decide)
  by_cases w2 : wd_y v 2
  · have rr : r.toInt = 3 := (c7 2 (by decide)).mpr w2
    have er : r = 3 := eq (by omega)
    have k7 := (e7_y c4 a5 w2 a2).2 (by decide)
    have k6 := ((h6.2 (fun g => by have := q_lt g; omega)).1 (Int32.le_iff_toInt_le.mpr (by omega))).2 er
    by_cases q4 : b.1 3 = 4
    · have k6 := k6.2 q4
      unfold wp_X7_readsDrum at k7
      have k7 := (drums_e k7).2 (by rw [← d6]; exact q4)
      unfold wp_X7_fails at k7
      have k7 : narrow .boolean (.int 0) = .int 0 ∧ narrow .boolean (.int 0) = .int 0 ∧ P7 0 ((va_up v.1 7 ((8 * (v.1 6)) + 3)), v.2.1, v.2.2.1, v.2.2.2) := k7
      refine flt (Q := P7) (kk := 3) (by decide) (by decide) k6 ?_
      unfold wp_X7_fails
      exact k7.2
    · have k6 := (snd (Q := True) (k6.1 q4)).1 er
      have n4 : ¬ D = 4 := fun g => q4 (Int32.toInt_inj.mp (by omega))
      obtain ⟨b', t', r', v', g1, g2, g3⟩ := sm_readDrum (RT_word (by decide) CWr w2 rfl) hBv hfv (by omega) k6 k7
      exact ⟨b', t', r', v', g1, g2.2, g3⟩
  · have h7 := (e7_no c4 a5 w2 a2).1 rfl
    have n3 : ¬ r = 3 := fun g => w2 ((c7 2 (by decide)).mp (by rw [g]; rfl))
    by_cases w3 : wd_y v 3
    · have rr : r.toInt = 4 := (c7 3 (by decide)).mpr w3
      have er : r = 4 := eq (by omega)
      have h7 := drums_e ((e7_y c4 a5 w3 h7).1 (by decide))
      have k6 := ((h6.2 (fun g => by have := q_lt g; omega)).1 (Int32.le_iff_toInt_le.mpr (by omega))).1 n3
      rw [← d6] at h7
      by_cases q0 : b.1 3 = 0
      · exact flt (Q := P7) (kk := 3) (by decide) (by decide) (k6.2 q0) (h7.2 q0)
      · have k7 := (e7_y c4 a5 w3 (h7.1 q0)).2 (by decide)
        have k6 := ((snd (Q := True) (k6.1 q0)).2 n3).1 er
        obtain ⟨b', t', r', v', g1, g2, g3⟩ := sm_readCells (RT_word (by decide) CWr w3 rfl) hBv hfv k6 k7
        exact ⟨b', t', r', v', g1, g2.2, g3⟩
    · have h7 := (e7_no c4 a5 w3 h7).2 rfl
      have n4 : ¬ r = 4 := fun g => w3 ((c7 3 (by decide)).mp (by rw [g]; rfl))
      by_cases w4 : wd_y v 4
      · have rr : r.toInt = 5 := (c7 4 (by decide)).mpr w4
        have er : r = 5 := eq (by omega)
        have h7 := drums_e ((e7_y c4 a5 w4 h7).1 (by decide))
        have k6 := ((h6.2 (fun g => by have := q_lt g; omega)).1 (Int32.le_iff_toInt_le.mpr (by omega))).1 n3
        rw [← d6] at h7
        by_cases q0 : b.1 3 = 0
        · exact flt (Q := P7) (kk := 3) (by decide) (by decide) (k6.2 q0) (h7.2 q0)
        · have pD : 0 < D := by
            have : ¬ D = 0 := fun g => q0 (Int32.toInt_inj.mp (by omega))
            omega
          have k7 := (e7_y c4 a5 w4 ((e7_no c4 a5 w3 (h7.1 q0)).1 rfl)).2 (by decide)
          have k6 := (((snd (Q := True) (k6.1 q0)).2 n3).2 n4).1 er
          obtain ⟨b', t', r', v', g1, g2, g3⟩ := sm_readWorn (RT_word (by decide) CWr w4 rfl) hBv hfv pD k6 k7
          exact ⟨b', t', r', v', g1, g2.2, g3⟩
      · have h7 := (e7_no c4 a5 w4 h7).2 rfl
        have n5 : ¬ r = 5 := fun g => w4 ((c7 4 (by decide)).mp (by rw [g]; rfl))
        by_cases w5 : wd_y v 5
        · have rr : r.toInt = 6 := (c7 5 (by decide)).mpr w5
          have er : r = 6 := eq (by omega)
          have h7 := drums_e ((e7_y c4 a5 w5 h7).1 (by decide))
          have k6 := ((h6.2 (fun g => by have := q_lt g; omega)).1 (Int32.le_iff_toInt_le.mpr (by omega))).1 n3
          rw [← d6] at h7
          by_cases q0 : b.1 3 = 0
          · exact flt (Q := P7) (kk := 3) (by decide) (by decide) (k6.2 q0) (h7.2 q0)
          · have pD : 0 < D := by
              have : ¬ D = 0 := fun g => q0 (Int32.toInt_inj.mp (by omega))
              omega
            have k7 := (e7_y c4 a5 w5 ((e7_no c4 a5 w4 ((e7_no c4 a5 w3 (h7.1 q0)).1 rfl)).1 rfl)).2 (by decide)
            have k6 := ((((snd (Q := True) (k6.1 q0)).2 n3).2 n4).2 n5).1 er
            obtain ⟨b', t', r', v', g1, g2, g3⟩ := sm_readRow (RT_word (by decide) CWr w5 rfl) hBv hfv pD k6 k7
            exact ⟨b', t', r', v', g1, g2.2, g3⟩
        · have h7 := (e7_no c4 a5 w5 h7).2 rfl
          have n6' : ¬ r = 6 := fun g => w5 ((c7 5 (by decide)).mp (by rw [g]; rfl))
          by_cases w6 : wd_y v 6
          · have rr : r.toInt = 7 := (c7 6 (by decide)).mpr w6
            have h7 := drums_e ((e7_y c4 a5 w6 h7).2 (by decide))
            have k6 := ((h6.2 (fun g => by have := q_lt g; omega)).1 (Int32.le_iff_toInt_le.mpr (by omega))).1 n3
            rw [← d6] at h7
            by_cases q0 : b.1 3 = 0
            · exact flt (Q := P7) (kk := 3) (by decide) (by decide) (k6.2 q0) (h7.2 q0)
            · have k7 := (e7_no c4 a5 w5 ((e7_no c4 a5 w4 ((e7_no c4 a5 w3 (h7.1 q0)).1 rfl)).1 rfl)).1 rfl
              have k6 := ((((snd (Q := True) (k6.1 q0)).2 n3).2 n4).2 n5).2 n6'
              exact sm_readLose (RT_word (by decide) CWr w6 rfl) hBv hfv k6 k7
          · have h7 := (e7_no c4 a5 w6 h7).1 rfl
            have n7 : ¬ r.toInt = 7 := fun g => w6 ((c7 6 (by decide)).mp g)
            have nn : r.toInt < 3 ∨ 7 < r.toInt := by
              have : ¬ r.toInt = 3 := fun g => n3 (eq (by omega))
              have : ¬ r.toInt = 4 := fun g => n4 (eq (by omega))
              have : ¬ r.toInt = 5 := fun g => n5 (eq (by omega))
              have : ¬ r.toInt = 6 := fun g => n6' (eq (by omega))
              omega
            by_cases q3 : r < 3
            · exact flt (Q := P7) (kk := 1) (by decide) (by decide) (h6.1 q3) h7
            · have q3' := q_nlt q3
              exact flt (Q := P7) (kk := 1) (by decide) (by decide) ((h6.2 q3).2 (fun g => by have := q_le g; omega)) h7
