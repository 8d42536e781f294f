/-! A step of a program, word and all. -/
def BST (m0 : Md) (R W D : Int) (t : Tp) (k a b q : Int32) (t' : Tp) : Prop := ∀ (v : Md) (T : (Int32 → Md → Prop) → Md → Int32 → Prop) (P : Int32 → Md → Prop) (x : Int32), VV m0 R W D t v → GO T P v x → KB m0 R W k a b q ∧ (t.1 1).toInt + 5 ≤ (t'.1 1).toInt ∧ ∃ v', VV m0 R W D t' v' ∧ SM v v' ∧ wp_X7_isDone (fun r u => (r = 0 → WP P 1 u) ∧ (¬ r = 0 → DO k a b q (fun w => WP P 1 w) u)) v' x
def SFL (m0 : Md) (R W D : Int) (d : Int32) (t : Tp) (fa : Int32) : Prop := ∀ (v : Md) (La Lb : LTY) (P : Int32 → Md → Prop) (x : Int32), VV m0 R W D t v → v.1 14 = d → GO (GT La Lb) P v x → ∃ v', P 0 v' ∧ v'.1 7 = fa ∧ SM v v'
def TRW (m0 : Md) (R W D : Int) (s0 : Pg) (t : Tp) (n : Int32) (pg : Pg) (w : Tp) : Prop := ∀ (v : Md) (La Lb : LTY) (P : Int32 → Md → Prop) (x : Int32), VV m0 R W D t v → v.1 14 = s0.1 0 → GO (GT La Lb) P v x → (w.1 5 = 0 ∧ (s0.1 0).toInt < 3 ∧ pg = OPN s0 ∧ (0 ≤ n.toInt ∧ n.toInt ≤ 20) ∧ (t.1 1).toInt + 6 ≤ (w.1 1).toInt ∧ ∃ v', VV m0 R W D w v' ∧ SM v v' ∧ wp_X7_isDone (fun r u => ∃ n90, Lb (WP P) (ET (WP P)) n90 ((va_up u.1 14 ((u.1 14) + 1)), u.2.1, u.2.2.1, u.2.2.2) x n r (u.1 6) 0) v' x) ∨ (¬ w.1 5 = 0 ∧ ∃ v', P 0 v' ∧ v'.1 7 = w.1 5 ∧ SM v v')
def AD (s : Pg) (k a b q : Int32) : Pg := ((va_up s.1 1 ((s.1 1) + 1)), (va_up (va_up (va_up (va_up (va_up s.2 0 (upd (s.2 0) (Int32.toNatClampNeg (s.1 1)) k)) 1 (upd (s.2 1) (Int32.toNatClampNeg (s.1 1)) a)) 2 (upd (s.2 2) (Int32.toNatClampNeg (s.1 1)) b)) 3 (upd (s.2 3) (Int32.toNatClampNeg (s.1 1)) q)) 4 (upd (s.2 4) (Int32.toNatClampNeg (s.1 1)) ((s.1 1) + 1))))
theorem ad_e {P : Pg → Prop} {s : Pg} {k a b q : Int32} (hz : (s.1 1).toInt < 80) (h : wp_X4_addStep P s k a b q) : P (AD s k a b q) := by
  unfold wp_X4_addStep at h
  have e80 : (80 : Int32).toInt = 80 := rfl
  exact (h.2 (fun c => by have := q_le c; omega)).2.2.2.2.2
theorem snd_e {C : Pg → Tp → Prop} {s : Pg} {w : Tp} {k a b q : Int32} (hz : (s.1 1).toInt < 80) (h : wp_X5_isSound (fun r => ((r = 0 → C s w) ∧ (¬ r = 0 → wp_X4_addStep (fun p => C p w) s k a b q))) w) : (w.1 5 = 0 → C (AD s k a b q) w) ∧ (¬ w.1 5 = 0 → C s w) := ⟨fun c => ad_e hz (((e5_isSound h).1 c).2 (by decide)), fun c => ((e5_isSound h).2 c).1 rfl⟩
theorem bst_of {m0 : Md} {R W D : Int} {t u w : Tp} {r : Int32} {G : (Int32 → Md → Prop) → Md → Int32 → Prop} {wl a b q : Int32} {i : Nat} (hi : i < 12) (hwl : wl = nI (st_len.getD i 0)) (hln : (t.1 1).toInt ≤ (t.1 1).toInt) (hn : 5 ≤ ln i ∨ (4 ≤ ln i ∧ (r = 7 ∨ r = 9 ∨ r = 10)) ∨ (3 ≤ ln i ∧ r = 6)) (hg : ∀ (v : Md) (T : (Int32 → Md → Prop) → Md → Int32 → Prop) (P : Int32 → Md → Prop) (x : Int32), VV m0 R W D t v → GO T P v x → ∃ v1, SM v v1 ∧ CW r u v1 ∧ (v.1 6).toInt ≤ (v1.1 6).toInt ∧ wd_y v1 i ∧ G (WP P) v1 x) (hB : BSR m0 R W D G wl ((va_up u.1 4 0), u.2) r a b q w) : BST m0 R W D t r a b q w := by
  intro v T P x hV h7
  obtain ⟨v1, s1, cw, le, wd, h7⟩ := hg v T P x hV h7
  obtain ⟨kb, v', vv, s2, p1, p2, p3, h7⟩ := hB v1 (WP P) x (VV_wd hi hV s1 cw wd hwl) h7
  have c8 := cw.2.2.2.2.2.2.2 i hi wd
  have c3 := cw.2.2.1
  have c4 := cw.2.2.2.1
  have b5 := cw.1.2.2
  have l := lnn i
  have ll : ln i = ((st_len.getD i 0 : Nat) : Int) := rfl
  have k := qk (q := v1.1 6) (k := st_len.getD i 0) (by omega) (by omega) (by omega)
  have a1 := congrArg Int32.toInt hV.1.2.1
  have a2 := congrArg Int32.toInt c8.1
  have p1 : (u.1 1).toInt ≤ (w.1 1).toInt := p1
  have p2 : r = 6 → (u.1 1).toInt + 2 ≤ (w.1 1).toInt := p2
  have p3 : r = 7 ∨ r = 9 ∨ r = 10 → (u.1 1).toInt + 1 ≤ (w.1 1).toInt := p3
  refine ⟨kb, ?_, v', vv, SM_tr s1 s2, h7⟩
  rcases hn with hn | ⟨hn, g⟩ | ⟨hn, g⟩
  · omega
  · have := p3 g
    omega
  · have := p2 g
    omega
theorem sfl_of {m0 : Md} {R W D : Int} {t u : Tp} {r d fa : Int32} {G : (Int32 → Md → Prop) → Md → Int32 → Prop} {wl : Int32} {i : Nat} (hi : i < 12) (hwl : wl = nI (st_len.getD i 0)) (hg : ∀ (v : Md) (T : (Int32 → Md → Prop) → Md → Int32 → Prop) (P : Int32 → Md → Prop) (x : Int32), VV m0 R W D t v → GO T P v x → ∃ v1, SM v v1 ∧ CW r u v1 ∧ (v.1 6).toInt ≤ (v1.1 6).toInt ∧ wd_y v1 i ∧ G (WP P) v1 x) (hB : FSR m0 R W D G wl ((va_up u.1 4 0), u.2) fa) : SFL m0 R W D d t fa := by
  intro v La Lb P x hV hd h7
  obtain ⟨v1, s1, cw, le, wd, h7⟩ := hg v _ P x hV h7
  obtain ⟨v', p, f, s2⟩ := hB.2 v1 (WP P) x (VV_wd hi hV s1 cw wd hwl) h7
  exact ⟨v', p.2, f, SM_tr s1 s2⟩
theorem st_step {C : Int32 → Pg → Tp → Prop} {m0 : Md} {N R W D : Int} {pg : Pg} {t : Tp} {b : Bd} (hR : (b.1 0).toInt = R) (hW : (b.1 1).toInt = W) (hRW : (b.1 0 * b.1 1).toInt = R * W) (hb : 0 ≤ R ∧ R ≤ 6 ∧ 0 ≤ W ∧ W ≤ 10 ∧ 0 ≤ R * W ∧ R * W ≤ 40) (hz : (pg.1 1).toInt < 80) (hd : 0 ≤ (pg.1 0).toInt ∧ (pg.1 0).toInt ≤ 3) (hx : ∃ v, VV m0 R W D t v ∧ mb N R W D v) (h6 : wp_X5_takeWord (fun r u => wp_X4_readStep (fun a b => C r a b) pg u b r) t) : (∃ r a b q t', ¬ r = 12 ∧ t'.1 5 = 0 ∧ C r (AD pg r a b q) t' ∧ BST m0 R W D t r a b q t') ∨ (∃ r pg' t', ¬ t'.1 5 = 0 ∧ C r pg' t' ∧ ∀ d, SFL m0 R W D d t (t'.1 5)) ∨ (∃ n pg1 t', ((t'.1 5 = 0 → wp_X4_addStep (fun p => C 12 p t') pg1 12 n 0 (t'.1 4)) ∧ (¬ t'.1 5 = 0 → C 12 pg1 t')) ∧ TRW m0 R W D pg t n pg1 t') := by
  obtain ⟨r, u, h6, z⟩ := fz2 (F := fun P => wp_X5_takeWord P t) (dt_X5_takeWord t) h6
  have gw := fun (v : Md) (T : (Int32 → Md → Prop) → Md → Int32 → Prop) (P : Int32 → Md → Prop) (x : Int32) (hV : VV m0 R W D t v) (h7 : GO T P v x) => go_word z hV h7
  obtain ⟨vx, hcw⟩ : ∃ v1, CW r u v1 := by
    obtain ⟨v, hV, hM⟩ := hx
    have z := z
    unfold wp_X5_takeWord at z
    have r5 := hV.1.2.2
    have n5 := hM.1
    obtain ⟨u0, v1, a1, _, a3, _⟩ := sm_peek (P7 := fun _ _ => True) hV.1 z (wq_X7_nextByte hM (by omega) (fun _ _ _ _ _ _ _ _ => trivial))
    obtain ⟨n6, a1⟩ := a1
    obtain ⟨r', w, ⟨c1, c2⟩, fr, cw⟩ := sm_word_core a3 a1
    subst c1 c2
    exact ⟨v1, cw⟩
  unfold wp_X4_readStep at h6
  by_cases c6 : r = 6
  · subst c6
    obtain ⟨a, w, h6, k⟩ := st_row (m0 := m0) (D := D) hR hW ⟨hb.1, hb.2.1, hb.2.2.1, hb.2.2.2.1⟩ (h6.1 rfl)
    have hg : ∀ (v : Md) (T : (Int32 → Md → Prop) → Md → Int32 → Prop) (P : Int32 → Md → Prop) (x : Int32), VV m0 R W D t v → GO T P v x → ∃ v1, SM v v1 ∧ CW 6 u v1 ∧ (v.1 6).toInt ≤ (v1.1 6).toInt ∧ wd_y v1 5 ∧ wp_X7_goesRow (WP P) v1 x := fun v T P x hV h7 => by
      obtain ⟨v1, s1, cw, le, g⟩ := gw v T P x hV h7
      rcases g with g | g | g | g | g | g | g | g
      · exact ⟨v1, s1, cw, le, g.2⟩
      all_goals first | exact absurd g.1 (by decide) | exact absurd rfl g.1.1
    by_cases c : w.1 5 = 0
    · exact Or.inl ⟨6, a, _, _, w, by decide, c, (snd_e hz h6).1 c, bst_of (i := 5) (by decide) rfl (Int.le_refl _) (by decide) hg (k.1 c)⟩
    · exact Or.inr (Or.inl ⟨6, pg, w, c, (snd_e hz h6).2 c, fun d => sfl_of (i := 5) (by decide) rfl hg (k.2 c)⟩)
  have h6 := h6.2 c6
  by_cases c7 : r = 7
  · subst c7
    obtain ⟨a, a2, w, h6, k⟩ := st_lose (m0 := m0) (D := D) hRW ⟨hb.2.2.2.2.1, hb.2.2.2.2.2⟩ (cells6_e (h6.1 rfl))
    have hg : ∀ (v : Md) (T : (Int32 → Md → Prop) → Md → Int32 → Prop) (P : Int32 → Md → Prop) (x : Int32), VV m0 R W D t v → GO T P v x → ∃ v1, SM v v1 ∧ CW 7 u v1 ∧ (v.1 6).toInt ≤ (v1.1 6).toInt ∧ wd_y v1 6 ∧ wp_X7_goesLose (WP P) v1 x := fun v T P x hV h7 => by
      obtain ⟨v1, s1, cw, le, g⟩ := gw v T P x hV h7
      rcases g with g | g | g | g | g | g | g | g
      case inr.inl => exact ⟨v1, s1, cw, le, g.2⟩
      all_goals first | exact absurd g.1 (by decide) | exact absurd rfl g.1.2.1
    by_cases c : w.1 5 = 0
    · exact Or.inl ⟨7, a, _, _, w, by decide, c, (snd_e hz h6).1 c, bst_of (i := 6) (by decide) rfl (Int.le_refl _) (by decide) hg ((k _).1 c)⟩
    · exact Or.inr (Or.inl ⟨7, pg, w, c, (snd_e hz h6).2 c, fun d => sfl_of (i := 6) (by decide) rfl hg ((k 0).2 c)⟩)
  have h6 := h6.2 c7
  by_cases c8 : r = 8
  · subst c8
    obtain ⟨w, h6, k⟩ := st_scroll (m0 := m0) (R := R) (D := D) hW ⟨hb.2.2.1, hb.2.2.2.1⟩ (h6.1 rfl)
    have hg : ∀ (v : Md) (T : (Int32 → Md → Prop) → Md → Int32 → Prop) (P : Int32 → Md → Prop) (x : Int32), VV m0 R W D t v → GO T P v x → ∃ v1, SM v v1 ∧ CW 8 u v1 ∧ (v.1 6).toInt ≤ (v1.1 6).toInt ∧ wd_y v1 7 ∧ wp_X7_goesScroll (WP P) v1 x := fun v T P x hV h7 => by
      obtain ⟨v1, s1, cw, le, g⟩ := gw v T P x hV h7
      rcases g with g | g | g | g | g | g | g | g
      case inr.inr.inl => exact ⟨v1, s1, cw, le, g.2⟩
      all_goals first | exact absurd g.1 (by decide) | exact absurd rfl g.1.2.2.1
    by_cases c : w.1 5 = 0
    · exact Or.inl ⟨8, 0, _, _, w, by decide, c, (snd_e hz h6).1 c, bst_of (i := 7) (by decide) rfl (Int.le_refl _) (by decide) hg (k.1 c)⟩
    · exact Or.inr (Or.inl ⟨8, pg, w, c, (snd_e hz h6).2 c, fun d => sfl_of (i := 7) (by decide) rfl hg (k.2 c)⟩)
  have h6 := h6.2 c8
  by_cases c9 : r = 9
  · subst c9
    obtain ⟨a, w, h6, k⟩ := st_home (m0 := m0) (W := W) (D := D) (b := 0) (q := 0) hR ⟨hb.1, hb.2.1⟩ (h6.1 rfl)
    have hg : ∀ (v : Md) (T : (Int32 → Md → Prop) → Md → Int32 → Prop) (P : Int32 → Md → Prop) (x : Int32), VV m0 R W D t v → GO T P v x → ∃ v1, SM v v1 ∧ CW 9 u v1 ∧ (v.1 6).toInt ≤ (v1.1 6).toInt ∧ wd_y v1 8 ∧ wp_X7_goesHome (WP P) v1 x := fun v T P x hV h7 => by
      obtain ⟨v1, s1, cw, le, g⟩ := gw v T P x hV h7
      rcases g with g | g | g | g | g | g | g | g
      case inr.inr.inr.inl => exact ⟨v1, s1, cw, le, g.2⟩
      all_goals first | exact absurd g.1 (by decide) | exact absurd rfl g.1.2.2.2.1
    by_cases c : w.1 5 = 0
    · exact Or.inl ⟨9, a, _, _, w, by decide, c, (snd_e hz h6).1 c, bst_of (i := 8) (by decide) rfl (Int.le_refl _) (by decide) hg ((k _).1 c)⟩
    · exact Or.inr (Or.inl ⟨9, pg, w, c, (snd_e hz h6).2 c, fun d => sfl_of (i := 8) (by decide) rfl hg ((k 0).2 c)⟩)
  have h6 := h6.2 c9
  by_cases c10 : r = 10
  · subst c10
    obtain ⟨a, w, h6, k⟩ := st_wait (m0 := m0) (R := R) (W := W) (D := D) (h6.1 rfl)
    have hg : ∀ (v : Md) (T : (Int32 → Md → Prop) → Md → Int32 → Prop) (P : Int32 → Md → Prop) (x : Int32), VV m0 R W D t v → GO T P v x → ∃ v1, SM v v1 ∧ CW 10 u v1 ∧ (v.1 6).toInt ≤ (v1.1 6).toInt ∧ wd_y v1 9 ∧ wp_X7_goesWait (WP P) v1 x := fun v T P x hV h7 => by
      obtain ⟨v1, s1, cw, le, g⟩ := gw v T P x hV h7
      rcases g with g | g | g | g | g | g | g | g
      case inr.inr.inr.inr.inl => exact ⟨v1, s1, cw, le, g.2⟩
      all_goals first | exact absurd g.1 (by decide) | exact absurd rfl g.1.2.2.2.2.1
    by_cases c : w.1 5 = 0
    · exact Or.inl ⟨10, a, _, _, w, by decide, c, (snd_e hz h6).1 c, bst_of (i := 9) (by decide) rfl (Int.le_refl _) (by decide) hg ((k _).1 c)⟩
    · exact Or.inr (Or.inl ⟨10, pg, w, c, (snd_e hz h6).2 c, fun d => sfl_of (i := 9) (by decide) rfl hg ((k 0).2 c)⟩)
  have h6 := h6.2 c10
  by_cases c11 : r = 11
  · subst c11
    have hg : ∀ (v : Md) (T : (Int32 → Md → Prop) → Md → Int32 → Prop) (P : Int32 → Md → Prop) (x : Int32), VV m0 R W D t v → GO T P v x → ∃ v1, SM v v1 ∧ CW 11 u v1 ∧ (v.1 6).toInt ≤ (v1.1 6).toInt ∧ wd_y v1 10 ∧ wp_X7_goesSettle (WP P) v1 x := fun v T P x hV h7 => by
      obtain ⟨v1, s1, cw, le, g⟩ := gw v T P x hV h7
      rcases g with g | g | g | g | g | g | g | g
      case inr.inr.inr.inr.inr.inl => exact ⟨v1, s1, cw, le, g.2⟩
      all_goals first | exact absurd g.1 (by decide) | exact absurd rfl g.1.2.2.2.2.2.1
    have h5 : u.1 5 = 0 := hcw.2.2.2.2.1
    exact Or.inl ⟨11, 0, 0, 0, ((va_up u.1 4 0), u.2), by decide, h5, (snd_e hz (h6.1 rfl)).1 h5, bst_of (i := 10) (by decide) rfl (Int.le_refl _) (by decide) hg (st_settle h5)⟩
  have h6 := h6.2 c11
  by_cases c12 : r = 12
  · subst c12
    obtain ⟨n, pg1, w, h6, k⟩ := st_times (m0 := m0) (R := R) (W := W) (D := D) (h6.1 rfl)
    have q := e5_isSound h6
    refine Or.inr (Or.inr ⟨n, pg1, w, ⟨fun c => (q.1 c).2 (by decide), fun c => (q.2 c).1 rfl⟩, ?_⟩)
    intro v La Lb P x hV hdd h7
    obtain ⟨v1, s1, cw, le, g⟩ := gw v _ P x hV h7
    have g : wd_y v1 11 ∧ GT La Lb (WP P) v1 x := by
      rcases g with g | g | g | g | g | g | g | g
      case inr.inr.inr.inr.inr.inr.inl => exact g.2
      all_goals first | exact absurd g.1 (by decide) | exact absurd rfl g.1.2.2.2.2.2.2
    rcases k v1 La Lb (WP P) x (VV_wd (i := 11) (by decide) hV s1 cw g.1 rfl) ((s1.1 14 (by decide)).trans hdd) hd g.2 with ⟨k1, k2, k3, k4, k5, v', k6, k7, k8⟩ | ⟨k1, v', k2, k3, k4⟩
    · refine Or.inl ⟨k1, k2, k3, k4, ?_, v', k6, SM_tr s1 k7, k8⟩
      have c8 := cw.2.2.2.2.2.2.2 11 (by decide) g.1
      have ll : ln 11 = 5 := by decide
      have c3 := cw.2.2.1
      have c4 := cw.2.2.2.1
      have b5 := cw.1.2.2
      have k := qk (q := v1.1 6) (k := st_len.getD 11 0) (by omega) (by omega) (by decide)
      have a1 := congrArg Int32.toInt hV.1.2.1
      have a2 := congrArg Int32.toInt c8.1
      have k5 : (u.1 1).toInt + 2 ≤ (w.1 1).toInt := k5
      have l5 : ((st_len.getD 11 0 : Nat) : Int) = 5 := by decide
      omega
    · exact Or.inr ⟨k1, v', k2.2, k3, SM_tr s1 k4⟩
  have h6 := h6.2 c12
  have h6 : wp_X5_blame (fun u_64 => wp_X5_isSound (fun r_65 => ((r_65 = 0 → C r pg u_64) ∧ (¬ r_65 = 0 → wp_X4_addStep (fun u_69 => C r u_69 u_64) pg r (0 : Int32) (0 : Int32) (u_64.1 4)))) u_64) ((va_up u.1 4 0), u.2) (u.1 2) (1 : Int32) := h6
  obtain ⟨w, h6, zz⟩ := fz1 (dt_X5_blame ((va_up u.1 4 0), u.2) (u.1 2) 1) h6
  have key : ∀ (v : Md) (La Lb : LTY) (P : Int32 → Md → Prop) (x : Int32), VV m0 R W D t v → GO (GT La Lb) P v x → ¬ w.1 5 = 0 ∧ ∃ v', P 0 v' ∧ v'.1 7 = w.1 5 ∧ SM v v' := by
    intro v La Lb P x hV h7
    obtain ⟨v1, s1, cw, le, g⟩ := gw v _ P x hV h7
    have g : wp_X7_fails (WP P) v1 1 (v1.1 6) := by
      rcases g with g | g | g | g | g | g | g | g
      case inr.inr.inr.inr.inr.inr.inr => exact g.2
      all_goals first | exact absurd g.1 c6 | exact absurd g.1 c7 | exact absurd g.1 c8 | exact absurd g.1 c9 | exact absurd g.1 c10 | exact absurd g.1 c11 | exact absurd g.1 c12
    have c3 := cw.2.2.1
    have c4 := cw.2.2.2.1
    have b5 := cw.1.2.2
    obtain ⟨w', v', c1, h7, f3, k1⟩ := sm_fault (t := ((va_up u.1 4 0), u.2)) cw.2.2.2.2.1 cw.2.1 (by omega) (by omega) (by decide) (by decide) zz g
    subst c1
    exact ⟨k1.2, v', h7.2, k1.1.symm, SM_tr s1 (FR_sm f3)⟩
  have nz : ¬ w.1 5 = 0 := by
    have c3 := hcw.2.2.1
    have c4 := hcw.2.2.2.1
    have b5 := hcw.1.2.2
    obtain ⟨w', v', c1, _, f3, k1⟩ := sm_fault (P7 := fun _ _ => True) (t := ((va_up u.1 4 0), u.2)) hcw.2.2.2.2.1 hcw.2.1 (by omega) (by omega) (by decide) (by decide) zz (show wp_X7_fails (fun _ _ => True) vx 1 (vx.1 6) from trivial)
    subst c1
    exact k1.2
  exact Or.inr (Or.inl ⟨r, pg, w, nz, ((e5_isSound h6).2 nz).1 rfl, fun d v La Lb P x hV hdd h7 => (key v La Lb P x hV h7).2⟩)
