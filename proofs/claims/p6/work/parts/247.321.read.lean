/-! Steps of a program as they are read: what the class has read, the reference reads too, from every state with this text. -/
theorem fz1 {A : Type} {F : (A → Prop) → Prop} (h : dt F F) {K : A → Prop} (a : F K) : ∃ o, K o ∧ F (fun x => x = o) := by
  obtain ⟨o, k, w, _⟩ := h K a
  exact ⟨o, k, w _ rfl⟩
theorem fz2 {A B : Type} {F : (A → B → Prop) → Prop} (h : dt (fun P : A × B → Prop => F (fun a b => P (a, b))) (fun P : A × B → Prop => F (fun a b => P (a, b)))) {K : A → B → Prop} (a : F K) : ∃ x y, K x y ∧ F (fun a b => a = x ∧ b = y) := by
  obtain ⟨o, k, w, _⟩ := h (fun o => K o.1 o.2) a
  exact ⟨o.1, o.2, k, w (fun x => x.1 = o.1 ∧ x.2 = o.2) ⟨rfl, rfl⟩⟩
def WP (P : Int32 → Md → Prop) : Int32 → Md → Prop := fun r u => narrow .boolean (.int r) = .int r ∧ P r u
def SM (v v' : Md) : Prop := ie [6, 7, 8, 9, 10, 11, 12] v'.1 v.1 ∧ v'.2 = v.2
theorem SM_rf (v : Md) : SM v v := ⟨ie_refl _ _, rfl⟩
theorem SM_tr {u v w : Md} (a : SM u v) (b : SM v w) : SM u w := ⟨ie_tr b.1 (fun _ h => h) a.1, b.2.trans a.2⟩
theorem FR_sm {t u : Tp} {s v : Md} (h : FR t u s v) : SM s v := ⟨fun k hk => h.2.2.1 k (fun g => hk (by
  simp only [List.mem_cons, List.not_mem_nil, or_false] at g ⊢
  omega)), h.2.2.2⟩
theorem SM_up (v : Md) {k : Nat} {y : Int32} (hk : k ∈ [6, 7, 8, 9, 10, 11, 12]) : SM v ((va_up v.1 k y), v.2.1, v.2.2.1, v.2.2.2) := ⟨ie_up (ie_refl _ _) hk, rfl⟩
/-- the text, and where it is read -/
def VV (m0 : Md) (R W D : Int) (t : Tp) (v : Md) : Prop := RT t v ∧ rw_ok R W D (v.2.2.1 0) ∧ v.1 5 = m0.1 5 ∧ v.2.2.2 2 = m0.2.2.2 2
theorem VV_sm {m0 : Md} {R W D : Int} {t u : Tp} {v w : Md} (h : VV m0 R W D t v) (s : SM v w) (r : RT u w) : VV m0 R W D u w := ⟨r, by rw [s.2]; exact h.2.1, (s.1 5 (by decide)).trans h.2.2.1, by rw [s.2]; exact h.2.2.2⟩
theorem SG_vv {m0 : Md} {v : Md} {q n : Int32} (h5 : v.1 5 = m0.1 5) (h2 : v.2.2.2 2 = m0.2.2.2 2) (h : SG v q n) : SG m0 q n := by
  have e : ∀ x, tb7 v x = tb7 m0 x := fun x => by
    unfold tb7
    rw [h5, h2]
  intro k hk
  have := h k hk
  rw [e] at this
  exact this
theorem id_mono {Q Q' : Int32 → Md → Prop} {v : Md} {x : Int32} (h : wp_X7_isDone Q v x) (h0 : Q 0 v → Q' 0 v) (h1 : Q 1 ((va_up v.1 13 ((v.1 13) + 1)), v.2.1, v.2.2.1, v.2.2.2) → Q' 1 ((va_up v.1 13 ((v.1 13) + 1)), v.2.1, v.2.2.1, v.2.2.2)) : wp_X7_isDone Q' v x := by
  unfold wp_X7_isDone at h ⊢
  exact ⟨fun c => h0 (h.1 c), fun c => ⟨fun d => h1 ((h.2 c).1 d), fun d => h0 ((h.2 c).2 d)⟩⟩
/-- what is done -/
def DO (k a b q : Int32) (Q : Md → Prop) (u : Md) : Prop := (k = 6 → wp_X7_wantsSigns (fun _ w => Q w) u a b q 1) ∧ (k = 7 → wp_X7_sets Q u a 4 (Int32.toInt64 b)) ∧ (k = 8 → wp_X7_scrolls (fun _ w => Q w) u b q) ∧ (k = 9 → u.1 8 = a ∧ ∃ p n x, wp_X7_goesHome_L38 p (fun w _ _ => Q w) n u x 0) ∧ (k = 10 → u.1 8 = a ∧ ∃ p n x, wp_X7_goesWait_L34 p (fun w _ _ => Q w) n u x 0) ∧ (k = 11 → wp_X7_settles (fun _ w => Q w) u)
def KB (m0 : Md) (R W : Int) (k a b q : Int32) : Prop := (k = 6 ∨ k = 7 ∨ k = 8 ∨ k = 9 ∨ k = 10 ∨ k = 11) ∧ (k = 6 → (0 ≤ a.toInt ∧ a.toInt < R) ∧ (0 ≤ b.toInt ∧ 0 ≤ q.toInt ∧ b.toInt + q.toInt ≤ (m0.1 5).toInt ∧ SG m0 b q)) ∧ (k = 8 → 0 ≤ b.toInt ∧ 0 ≤ q.toInt ∧ b.toInt + q.toInt ≤ (m0.1 5).toInt ∧ SG m0 b q) ∧ (k = 9 → 0 ≤ a.toInt ∧ a.toInt < R) ∧ (k = 10 → 1 ≤ a.toInt ∧ a.toInt ≤ 99) ∧ (k = 7 → (0 ≤ a.toInt ∧ a.toInt < R * W) ∧ (0 ≤ b.toInt ∧ b.toInt ≤ 9))
/-- a step that reads well, behind its word -/
def BSR (m0 : Md) (R W D : Int) (G : (Int32 → Md → Prop) → Md → Int32 → Prop) (wl : Int32) (t : Tp) (k a b q : Int32) (t' : Tp) : Prop := ∀ (v : Md) (P : Int32 → Md → Prop) (x : Int32), VV m0 R W D t ((va_up v.1 6 ((v.1 6) + wl)), v.2.1, v.2.2.1, v.2.2.2) → G P v x → KB m0 R W k a b q ∧ ∃ v', VV m0 R W D t' v' ∧ SM v v' ∧ (t.1 1).toInt ≤ (t'.1 1).toInt ∧ (k = 6 → (t.1 1).toInt + 2 ≤ (t'.1 1).toInt) ∧ (k = 7 ∨ k = 9 ∨ k = 10 → (t.1 1).toInt + 1 ≤ (t'.1 1).toInt) ∧ wp_X7_isDone (fun r u => (r = 0 → P 1 u) ∧ (¬ r = 0 → DO k a b q (fun w => P 1 w) u)) v' x
def FSR (m0 : Md) (R W D : Int) (G : (Int32 → Md → Prop) → Md → Int32 → Prop) (wl : Int32) (t : Tp) (fa : Int32) : Prop := ¬ fa = 0 ∧ ∀ (v : Md) (P : Int32 → Md → Prop) (x : Int32), VV m0 R W D t ((va_up v.1 6 ((v.1 6) + wl)), v.2.1, v.2.2.1, v.2.2.2) → G P v x → ∃ v', P 0 v' ∧ v'.1 7 = fa ∧ SM v v'
theorem SM_wl {v w : Md} {y : Int32} (h : SM ((va_up v.1 6 y), v.2.1, v.2.2.1, v.2.2.2) w) : SM v w := SM_tr (SM_up v (by decide)) h
/-- row -/
theorem st_row {K : Int32 → Tp → Prop} {m0 : Md} {R W D : Int} {t : Tp} {rows wd : Int32} (hr : rows.toInt = R) (hw : wd.toInt = W) (hb : 0 ≤ R ∧ R ≤ 6 ∧ 0 ≤ W ∧ W ≤ 10) (h6 : wp_X5_takeNumber (fun r u => wp_X5_takeQuoted (fun w => K r w) u 0 wd) t 0 (rows - 1)) : ∃ r w, K r w ∧ ((w.1 5 = 0 → BSR m0 R W D wp_X7_goesRow 3 t 6 r (w.1 3) (w.1 4) w) ∧ (¬ w.1 5 = 0 → FSR m0 R W D wp_X7_goesRow 3 t (w.1 5))) := by
  have e0 : (0 : Int32).toInt = 0 := rfl
  have e1 : (1 : Int32).toInt = 1 := rfl
  have sr := nw (tq_subr e1 rows) (by omega)
  obtain ⟨r, u, h6, z1⟩ := fz2 (F := fun P => wp_X5_takeNumber P t 0 (rows - 1)) (dt_X5_takeNumber t 0 (rows - 1)) h6
  obtain ⟨w, h6, z2⟩ := fz1 (dt_X5_takeQuoted u 0 wd) h6
  have key : ∀ (v : Md) (P : Int32 → Md → Prop) (x : Int32), VV m0 R W D t ((va_up v.1 6 ((v.1 6) + 3)), v.2.1, v.2.2.1, v.2.2.2) → wp_X7_goesRow P v x → (w.1 5 = 0 ∧ KB m0 R W 6 r (w.1 3) (w.1 4) ∧ ∃ v', VV m0 R W D w v' ∧ SM v v' ∧ (t.1 1).toInt ≤ (w.1 1).toInt ∧ ((6 : Int32) = 6 → (t.1 1).toInt + 2 ≤ (w.1 1).toInt) ∧ ((6 : Int32) = 7 ∨ (6 : Int32) = 9 ∨ (6 : Int32) = 10 → (t.1 1).toInt + 1 ≤ (w.1 1).toInt) ∧ wp_X7_isDone (fun r' u => (r' = 0 → P 1 u) ∧ (¬ r' = 0 → DO 6 r (w.1 3) (w.1 4) (fun w => P 1 w) u)) v' x) ∨ (¬ w.1 5 = 0 ∧ ∃ v', P 0 v' ∧ v'.1 7 = w.1 5 ∧ SM v v') := by
    intro v P x hV h7
    unfold wp_X7_goesRow at h7
    have rn := rw_n hV.2.1
    have h7 := rows_e h7
    have ew : Int64.toInt32 (v.2.2.1 0 0) = rows := Int32.toInt_inj.mp (rn.1.trans hr.symm)
    have ew1 : Int64.toInt32 (v.2.2.1 0 1) = wd := Int32.toInt_inj.mp (rn.2.1.trans hw.symm)
    have h7 : wp_X7_readsNumber _ ((va_up v.1 6 ((v.1 6) + 3)), v.2.1, v.2.2.1, v.2.2.2) 0 (Int64.toInt32 (v.2.2.1 0 0) - 1) := h7
    rw [ew] at h7
    obtain ⟨r', u', r7, v1, ⟨c1, c2⟩, h7, f1, g1⟩ := sm_number hV.1 (by decide) (by omega) z1 h7
    subst c1 c2
    rcases g1 with ⟨rfl, g1, g2, g3, g4, _, _, _, g5⟩ | ⟨rfl, g1⟩
    · have h7 := wide_e (h7.1 (by decide))
      have fv1 : v1.2 = v.2 := f1.2.2.2
      rw [fv1, ew1] at h7
      obtain ⟨w', r8, v2, c3, h7, f2, k1⟩ := sm_quoted g1 (by decide) (by omega) (by omega) z2 h7
      subst c3
      have sm : SM v v2 := SM_wl (SM_tr (FR_sm f1) (FR_sm f2))
      rcases k1 with ⟨rfl, k1, k2, k3, k4, k5, k6, ⟨k7, k8⟩, k9⟩ | ⟨rfl, k1⟩
      · have vv : VV m0 R W D w' v2 := VV_sm hV (SM_tr (FR_sm f1) (FR_sm f2)) k1
        refine Or.inl ⟨k1.2.2.2.2, ⟨Or.inl rfl, fun _ => ⟨⟨by omega, by omega⟩, ⟨by rw [k2]; exact k6, by rw [k3]; omega, by rw [k2, k3, ← vv.2.2.1]; exact k7, by rw [k2, k3]; exact SG_vv vv.2.2.1 vv.2.2.2 k9⟩⟩, fun c => absurd c (by decide), fun c => absurd c (by decide), fun c => absurd c (by decide), fun c => absurd c (by decide)⟩, v2, vv, sm, ?_, fun _ => ?_, fun _ => ?_, id_mono (h7.1 (by decide)) (fun q => ⟨fun _ => q.1 rfl, fun c => (c rfl).elim⟩) (fun q => ⟨fun c => absurd c (by decide), fun c => ⟨fun _ => ?_, fun c => absurd c (by decide), fun c => absurd c (by decide), fun c => absurd c (by decide), fun c => absurd c (by decide), fun c => absurd c (by decide)⟩⟩)⟩
        · have a1 := congrArg Int32.toInt hV.1.2.1
          have a2 := congrArg Int32.toInt k1.2.1
          have a3 := congrArg Int32.toInt g1.2.1
          omega
        · have a1 := congrArg Int32.toInt hV.1.2.1
          have a2 := congrArg Int32.toInt k1.2.1
          omega
        · have a1 := congrArg Int32.toInt hV.1.2.1
          have a2 := congrArg Int32.toInt k1.2.1
          omega
        · rw [g2, k2, k3]
          exact q.2 c
      · exact Or.inr ⟨k1.2, v2, h7.2 rfl, k1.1.symm, sm⟩
    · obtain ⟨w', c3, c4⟩ := fq_X5_takeQuoted u' 0 wd g1.2 rfl _ z2
      have c3 : w' = w := c3
      subst c3
      have c4 : w'.1 5 = u'.1 5 := c4
      exact Or.inr ⟨by rw [c4]; exact g1.2, v1, h7.2 rfl, by rw [c4]; exact g1.1.symm, SM_wl (FR_sm f1)⟩
  refine ⟨r, w, h6, fun c => ?_, fun c => ⟨c, ?_⟩⟩
  · intro v P x hV h7
    rcases key v P x hV h7 with g | g
    · exact g.2
    · exact (g.1 c).elim
  · intro v P x hV h7
    rcases key v P x hV h7 with g | g
    · exact (c g.1).elim
    · exact g.2
