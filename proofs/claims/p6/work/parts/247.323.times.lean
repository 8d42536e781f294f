/-! A word, and times. -/
theorem VV_wd {m0 : Md} {R W D : Int} {t u : Tp} {v v1 : Md} {r : Int32} {i : Nat} {x : Int32} (hi : i < 12) (h : VV m0 R W D t v) (s : SM v v1) (hc : CW r u v1) (hw : wd_y v1 i) (hx : x = nI (st_len.getD i 0)) : VV m0 R W D ((va_up u.1 4 0), u.2) ((va_up v1.1 6 ((v1.1 6) + x)), v1.2.1, v1.2.2.1, v1.2.2.2) := VV_sm h (SM_tr s (SM_up v1 (by decide))) (RT_word hi hc hw hx)
theorem go_word {m0 : Md} {R W D : Int} {t u : Tp} {v : Md} {r : Int32} {T : (Int32 → Md → Prop) → Md → Int32 → Prop} {P : Int32 → Md → Prop} {x : Int32} (z : wp_X5_takeWord (fun a b => a = r ∧ b = u) t) (hV : VV m0 R W D t v) (h7 : GO T P v x) : ∃ v1, SM v v1 ∧ CW r u v1 ∧ (v.1 6).toInt ≤ (v1.1 6).toInt ∧ ((r = 6 ∧ wd_y v1 5 ∧ wp_X7_goesRow (WP P) v1 x) ∨ (r = 7 ∧ wd_y v1 6 ∧ wp_X7_goesLose (WP P) v1 x) ∨ (r = 8 ∧ wd_y v1 7 ∧ wp_X7_goesScroll (WP P) v1 x) ∨ (r = 9 ∧ wd_y v1 8 ∧ wp_X7_goesHome (WP P) v1 x) ∨ (r = 10 ∧ wd_y v1 9 ∧ wp_X7_goesWait (WP P) v1 x) ∨ (r = 11 ∧ wd_y v1 10 ∧ wp_X7_goesSettle (WP P) v1 x) ∨ (r = 12 ∧ wd_y v1 11 ∧ T (WP P) v1 x) ∨ ((¬ r = 6 ∧ ¬ r = 7 ∧ ¬ r = 8 ∧ ¬ r = 9 ∧ ¬ r = 10 ∧ ¬ r = 11 ∧ ¬ r = 12) ∧ wp_X7_fails (WP P) v1 1 (v1.1 6))) := by
  have e6 : (6 : Int32).toInt = 6 := rfl
  have e7 : (7 : Int32).toInt = 7 := rfl
  have e8 : (8 : Int32).toInt = 8 := rfl
  have e9 : (9 : Int32).toInt = 9 := rfl
  have e10 : (10 : Int32).toInt = 10 := rfl
  have e11 : (11 : Int32).toInt = 11 := rfl
  have e12 : (12 : Int32).toInt = 12 := rfl
  unfold GO at h7
  unfold wp_X5_takeWord at z
  unfold wp_X7_isWord at h7
  obtain ⟨u0, v1, a1, a2, a3, a4, a5, a6, _⟩ := sm_peek hV.1 z h7
  obtain ⟨n6, a1⟩ := a1
  obtain ⟨r', w, ⟨c1, c2⟩, fr, cw⟩ := sm_word_core a3 a1
  subst c1 c2
  obtain ⟨c1, c2, c3, c4, c5, c6, c7, c8⟩ := id cw
  have nt : ∀ {i : Nat} {k : Int32}, i < 12 → k.toInt = (i : Int) + 1 → ¬ wd_y v1 i → ¬ r' = k := fun {i k} hi hk g g2 => g ((c7 i hi).mp (by rw [g2]; exact hk))
  have yt : ∀ {i : Nat} {k : Int32}, i < 12 → k.toInt = (i : Int) + 1 → wd_y v1 i → r' = k := fun {i k} hi hk g => Int32.toInt_inj.mp (((c7 i hi).mpr g).trans hk.symm)
  refine ⟨v1, FR_sm a4, cw, a6, ?_⟩
  rcases e7_isW_rest a3.2.2.2.1 a2 with ⟨h7, d⟩ | ⟨h7, d⟩
  · exact Or.inl ⟨yt (by decide) e6 d, d, h7.2 (by decide)⟩
  have n6 := nt (by decide) e6 d
  have h7 := h7.1 rfl
  rcases e7_isWord c4 a5 h7 with ⟨h7, d⟩ | ⟨h7, d⟩
  · exact Or.inr (Or.inr (Or.inl ⟨yt (by decide) e8 d, d, h7.2 (by decide)⟩))
  have n8 := nt (by decide) e8 d
  have h7 := h7.1 rfl
  rcases e7_isWord c4 a5 h7 with ⟨h7, d⟩ | ⟨h7, d⟩
  · exact Or.inr (Or.inr (Or.inr (Or.inl ⟨yt (by decide) e9 d, d, h7.2 (by decide)⟩)))
  have n9 := nt (by decide) e9 d
  have h7 := h7.1 rfl
  rcases e7_isWord c4 a5 h7 with ⟨h7, d⟩ | ⟨h7, d⟩
  · exact Or.inr (Or.inr (Or.inr (Or.inr (Or.inl ⟨yt (by decide) e10 d, d, h7.2 (by decide)⟩))))
  have n10 := nt (by decide) e10 d
  have h7 := h7.1 rfl
  rcases e7_isWord c4 a5 h7 with ⟨h7, d⟩ | ⟨h7, d⟩
  · exact Or.inr (Or.inr (Or.inr (Or.inr (Or.inr (Or.inl ⟨yt (by decide) e11 d, d, h7.2 (by decide)⟩)))))
  have n11 := nt (by decide) e11 d
  have h7 := h7.1 rfl
  rcases e7_isWord c4 a5 h7 with ⟨h7, d⟩ | ⟨h7, d⟩
  · exact Or.inr (Or.inl ⟨yt (by decide) e7 d, d, h7.2 (by decide)⟩)
  have n7 := nt (by decide) e7 d
  have h7 := h7.1 rfl
  rcases e7_isWord c4 a5 h7 with ⟨h7, d⟩ | ⟨h7, d⟩
  · exact Or.inr (Or.inr (Or.inr (Or.inr (Or.inr (Or.inr (Or.inl ⟨yt (by decide) e12 d, d, h7.2 (by decide)⟩))))))
  have n12 := nt (by decide) e12 d
  exact Or.inr (Or.inr (Or.inr (Or.inr (Or.inr (Or.inr (Or.inr ⟨⟨n6, n7, n8, n9, n10, n11, n12⟩, h7.1 rfl⟩))))))
theorem fqp {K : Int32 → Tp → Prop} {t : Tp} (h0 : ¬ t.1 5 = 0) (h : wp_X5_peek K t) : ∃ r u, K r u ∧ u.1 5 = t.1 5 := by
  obtain ⟨o, a, b⟩ := fq_X5_peek t h0 rfl (fun o => K o.1 o.2) h
  exact ⟨_, _, a, b⟩
def ET (P : Int32 → Md → Prop) : Md → Int32 → Int32 → Int32 → Int32 → Int32 → Prop := fun t0 z1 z2 z3 z4 z5 => wp_X7_mustByte (fun r u => ((¬ r = 0 → P 1 ((va_up u.1 14 ((u.1 14) - 1)), u.2.1, u.2.2.1, u.2.2.2)) ∧ (r = 0 → P 0 u))) t0 (41 : Int32)
def OPN (s : Pg) : Pg := ((va_up s.1 0 ((s.1 0) + 1)), (va_up s.2 5 (upd (s.2 5) (Int32.toNatClampNeg (s.1 0)) (s.1 1))))
def LTY : Type := (Int32 → Md → Prop) → (Md → Int32 → Int32 → Int32 → Int32 → Int32 → Prop) → Nat → Md → Int32 → Int32 → Int32 → Int32 → Int32 → Prop
/-- times, behind its word -/
theorem st_times {K : Int32 → Pg → Tp → Prop} {m0 : Md} {R W D : Int} {t : Tp} {s0 : Pg} (h6 : wp_X5_takeNumber (fun r u => wp_X4_openTimes (fun a b => K r a b) s0 u) t 0 20) : ∃ n pg w, K n pg w ∧ ∀ (v : Md) (La Lb : LTY) (P : Int32 → Md → Prop) (x : Int32), VV m0 R W D t ((va_up v.1 6 ((v.1 6) + 5)), v.2.1, v.2.2.1, v.2.2.2) → v.1 14 = s0.1 0 → 0 ≤ (s0.1 0).toInt ∧ (s0.1 0).toInt ≤ 3 → GT La Lb P v x → (w.1 5 = 0 ∧ (s0.1 0).toInt < 3 ∧ pg = OPN s0 ∧ (0 ≤ n.toInt ∧ n.toInt ≤ 20) ∧ (t.1 1).toInt + 2 ≤ (w.1 1).toInt ∧ ∃ v', VV m0 R W D w v' ∧ SM v v' ∧ wp_X7_isDone (fun r u => ∃ n90, Lb P (ET P) n90 ((va_up u.1 14 ((u.1 14) + 1)), u.2.1, u.2.2.1, u.2.2.2) x n r (u.1 6) 0) v' x) ∨ (¬ w.1 5 = 0 ∧ ∃ v', P 0 v' ∧ v'.1 7 = w.1 5 ∧ SM v v') := by
  have e0 : (0 : Int32).toInt = 0 := rfl
  have e3 : (3 : Int32).toInt = 3 := rfl
  have e20 : (20 : Int32).toInt = 20 := rfl
  obtain ⟨n, u, h6, z1⟩ := fz2 (F := fun P => wp_X5_takeNumber P t 0 20) (dt_X5_takeNumber t 0 20) h6
  obtain ⟨pg, w, h6, z2⟩ := fz2 (F := fun P => wp_X4_openTimes P s0 u) (dt_X4_openTimes s0 u) h6
  refine ⟨n, pg, w, h6, ?_⟩
  intro v La Lb P x hV hd hd3 h7
  unfold GT at h7
  obtain ⟨n', u', r7, v1, ⟨c1, c2⟩, h7, f1, g1⟩ := sm_number hV.1 (by decide) (by decide) z1 h7
  subst c1 c2
  have d14 : v1.1 14 = s0.1 0 := ((FR_sm f1).1 14 (by decide)).trans hd
  rcases g1 with ⟨rfl, g1, g2, g3, g4, _, _, _, g5⟩ | ⟨rfl, g1⟩
  · have h7 := h7.1 (by decide)
    unfold wp_X4_openTimes at z2
    obtain ⟨u2, v2, z2, h7, a3, a4, a5, a6, _⟩ := sm_peek g1 z2 h7
    have d14 : v2.1 14 = s0.1 0 := ((FR_sm a4).1 14 (by decide)).trans d14
    have b5 := a3.1.2.2
    have b6 := a3.2.2
    have sm2 : SM v v2 := SM_wl (SM_tr (FR_sm f1) (FR_sm a4))
    have a1 := congrArg Int32.toInt hV.1.2.1
    have a2 := congrArg Int32.toInt g1.2.1
    have ex : n' = v1.1 8 := g2
    have ev : tb5 u2 (u2.1 1) = tb7 v2 (v2.1 6) := by
      rw [a3.2.1]
      exact tb_eq a3.1 _
    by_cases c : tb7 v2 (v2.1 6) = 40
    · have z2 := z2.2 c
      have h7 := h7.2 c
      by_cases c3 : s0.1 0 < 3
      · have lt := q_lt c3
        have z2 := z2.1 c3
        have h7 := h7.1 (fun g => by
          have := q_eq (d14.symm.trans g)
          omega)
        obtain ⟨u3, r8, v3, z2, h7, f3, k1⟩ := sm_takeByte (by decide) a3 z2 h7
        have sm : SM v v3 := SM_tr sm2 (FR_sm f3)
        rcases k1 with ⟨rfl, k1, k2⟩ | ⟨rfl, k1⟩
        · obtain ⟨z3, z4⟩ := ((e5_isSound z2).1 k1.2.2.2.2).2 (by decide) |>.2
          subst z4
          have k3 := congrArg Int32.toInt k1.2.1
          have vv : VV m0 R W D u3 v3 := VV_sm hV (SM_tr (FR_sm f1) (SM_tr (FR_sm a4) (FR_sm f3))) k1
          refine Or.inl ⟨k1.2.2.2.2, by omega, z3.symm, ⟨by omega, by omega⟩, by omega, v3, vv, sm, ?_⟩
          have h7 := h7.1 (by decide)
          rw [ex]
          exact h7
        · obtain ⟨_, z4⟩ := ((e5_isSound z2).2 k1.2).1 rfl
          subst z4
          exact Or.inr ⟨k1.2, v3, h7.2 rfl, k1.1.symm, sm⟩
      · have := q_nlt c3
        have e14 : v2.1 14 = 3 := Int32.toInt_inj.mp (by rw [d14, e3]; omega)
        obtain ⟨u3, v3, z2, h7, f3, k1⟩ := sm_fault a3.2.2.2.2 a3.2.1 (by omega) (by omega) (by decide) (by decide) (z2.2 c3) (h7.2 e14)
        obtain ⟨u4, z2, z5⟩ := fq_X5_takeByte u3 40 k1.2 rfl _ z2
        have z5 : u4.1 5 = u3.1 5 := z5
        obtain ⟨_, z4⟩ := ((e5_isSound z2).2 (by rw [z5]; exact k1.2)).1 rfl
        subst z4
        exact Or.inr ⟨by rw [z5]; exact k1.2, v3, h7.2, by rw [z5]; exact k1.1.symm, SM_tr sm2 (FR_sm f3)⟩
    · have z2 := z2.1 c
      have h7 := h7.1 c
      unfold wp_X7_mustByte wp_X7_takesByte at h7
      have h7 := (e7_next a5 h7).1 c |>.2 rfl
      unfold wp_X5_takeByte at z2
      have z2 := e5_peek (by rw [a3.2.1]; omega) (by rw [ev]; exact a5) z2
      rw [ev] at z2
      obtain ⟨u3, v3, z2, h7, f3, k1⟩ := sm_fault a3.2.2.2.2 a3.2.1 (by omega) (by omega) (by decide) (by decide) (z2.1 c) h7
      obtain ⟨_, z4⟩ := ((e5_isSound z2).2 k1.2).1 rfl
      subst z4
      exact Or.inr ⟨k1.2, v3, (h7.1 rfl).2 rfl, k1.1.symm, SM_tr sm2 (FR_sm f3)⟩
  · have h7 := h7.2 rfl
    unfold wp_X4_openTimes at z2
    obtain ⟨o, o2, z2, z5⟩ := fqp g1.2 z2
    have tk : wp_X5_takeByte (fun u_5 => wp_X5_isSound (fun r_6 => ((r_6 = 0 → s0 = pg ∧ u_5 = w) ∧ (¬ r_6 = 0 → vp_in (s0.1 0) 3 ∧ OPN s0 = pg ∧ u_5 = w))) u_5) o2 (40 : Int32) := by
      by_cases c : o = 40
      · by_cases c3 : s0.1 0 < 3
        · exact (z2.2 c).1 c3
        · exact e5_blame (by rw [z5]; exact g1.2) ((z2.2 c).2 c3)
      · exact z2.1 c
    obtain ⟨u4, z2, z6⟩ := fq_X5_takeByte o2 40 (by rw [z5]; exact g1.2) rfl _ tk
    have z6 : u4.1 5 = o2.1 5 := z6
    obtain ⟨_, z4⟩ := ((e5_isSound z2).2 (by rw [z6, z5]; exact g1.2)).1 rfl
    subst z4
    exact Or.inr ⟨by rw [z6, z5]; exact g1.2, v1, h7, by rw [z6, z5]; exact g1.1.symm, SM_wl (FR_sm f1)⟩
