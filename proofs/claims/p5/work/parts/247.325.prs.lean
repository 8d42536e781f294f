/-! A program as a tree: how it lies in the text, and in the class's rows. -/
inductive Pr : Type
  | nil : Pr
  | bas : Int32 → Int32 → Int32 → Int32 → Pr → Pr
  | tms : Int32 → Pr → Pr → Pr
def SEP (m0 : Md) (R W D : Int) (t t' : Tp) : Prop := ∀ (v : Md), VV m0 R W D t v → ∀ P, wp_X7_takesByte P v 59 → ∃ v', P 1 v' ∧ VV m0 R W D t' v' ∧ SM v v'
def NSP (m0 : Md) (R W D : Int) (t t' : Tp) : Prop := ∀ (v : Md), VV m0 R W D t v → ∀ P, wp_X7_takesByte P v 59 → ∃ v', P 0 v' ∧ VV m0 R W D t' v' ∧ SM v v'
def CLS (m0 : Md) (R W D : Int) (t t' : Tp) : Prop := ∀ (v : Md), VV m0 R W D t v → ∀ P, wp_X7_mustByte P v 41 → ∃ v', P 1 v' ∧ VV m0 R W D t' v' ∧ SM v v'
def TST (m0 : Md) (R W D : Int) (d : Nat) (t : Tp) (n : Int32) (t' : Tp) : Prop := ∀ (v : Md) (La Lb : LTY) (P : Int32 → Md → Prop) (x : Int32), VV m0 R W D t v → (v.1 14).toInt = (d : Int) → GO (GT La Lb) P v x → ∃ v', VV m0 R W D t' v' ∧ SM v v' ∧ wp_X7_isDone (fun r u => ∃ n90, Lb (WP P) (ET (WP P)) n90 ((va_up u.1 14 ((u.1 14) + 1)), u.2.1, u.2.2.1, u.2.2.2) x n r (u.1 6) 0) v' x
inductive PRS (m0 : Md) (R W D : Int) : Nat → Tp → Pr → Tp → Prop
  | b1 {d t k a b q t1 t2} : BST m0 R W D t k a b q t1 → KB m0 R W k a b q → NSP m0 R W D t1 t2 → PRS m0 R W D d t (Pr.bas k a b q Pr.nil) t2
  | bc {d t k a b q t1 t2 r t3} : BST m0 R W D t k a b q t1 → KB m0 R W k a b q → SEP m0 R W D t1 t2 → PRS m0 R W D d t2 r t3 → PRS m0 R W D d t (Pr.bas k a b q r) t3
  | t1 {d t n t1 body t2 t3 t4} : TST m0 R W D d t n t1 → d < 3 → (0 ≤ n.toInt ∧ n.toInt ≤ 20) → PRS m0 R W D (d + 1) t1 body t2 → CLS m0 R W D t2 t3 → NSP m0 R W D t3 t4 → PRS m0 R W D d t (Pr.tms n body Pr.nil) t4
  | tc {d t n t1 body t2 t3 t4 r t5} : TST m0 R W D d t n t1 → d < 3 → (0 ≤ n.toInt ∧ n.toInt ≤ 20) → PRS m0 R W D (d + 1) t1 body t2 → CLS m0 R W D t2 t3 → SEP m0 R W D t3 t4 → PRS m0 R W D d t4 r t5 → PRS m0 R W D d t (Pr.tms n body r) t5
def REP (s : Pg) : Nat → Pr → Nat → Prop
  | lo, Pr.nil, hi => lo = hi
  | lo, Pr.bas k a b q r, hi => (s.2 0 lo = k ∧ s.2 1 lo = a ∧ s.2 2 lo = b ∧ s.2 3 lo = q ∧ (s.2 4 lo).toInt = (lo : Int) + 1) ∧ REP s (lo + 1) r hi
  | lo, Pr.tms n body r, hi => (s.2 0 lo = 12 ∧ s.2 1 lo = n) ∧ ∃ e : Nat, (s.2 4 lo).toInt = (e : Int) ∧ lo + 1 < e ∧ REP s (lo + 1) body e ∧ REP s e r hi
theorem REP_le {s : Pg} : ∀ (p : Pr) (lo hi : Nat), REP s lo p hi → lo ≤ hi := by
  intro p
  induction p with
  | nil => intro lo hi h; exact Nat.le_of_eq h
  | bas k a b q r ih =>
    intro lo hi h
    have := ih _ _ h.2
    omega
  | tms n body r ih1 ih2 =>
    intro lo hi h
    obtain ⟨_, e, h1, h2, h3, h4⟩ := h
    have := ih2 _ _ h4
    omega
theorem REP_k {s s' : Pg} : ∀ (p : Pr) (lo hi : Nat), REP s lo p hi → (∀ j, j < 5 → ∀ i, lo ≤ i → i < hi → s'.2 j i = s.2 j i) → REP s' lo p hi := by
  intro p
  induction p with
  | nil => intro lo hi h _; exact h
  | bas k a b q r ih =>
    intro lo hi h g
    have l := REP_le _ _ _ h.2
    refine ⟨?_, ih _ _ h.2 (fun j hj i h1 h2 => g j hj i (by omega) h2)⟩
    rw [g 0 (by decide) lo (by omega) (by omega), g 1 (by decide) lo (by omega) (by omega), g 2 (by decide) lo (by omega) (by omega), g 3 (by decide) lo (by omega) (by omega), g 4 (by decide) lo (by omega) (by omega)]
    exact h.1
  | tms n body r ih1 ih2 =>
    intro lo hi h g
    obtain ⟨h0, e, h1, h2, h3, h4⟩ := h
    have l := REP_le _ _ _ h4
    refine ⟨?_, e, ?_, h2, ih1 _ _ h3 (fun j hj i a b => g j hj i (by omega) (by omega)), ih2 _ _ h4 (fun j hj i a b => g j hj i (by omega) b)⟩
    · rw [g 0 (by decide) lo (by omega) (by omega), g 1 (by decide) lo (by omega) (by omega)]
      exact h0
    · rw [g 4 (by decide) lo (by omega) (by omega)]
      exact h1
theorem mb_k {N R W D : Int} {v w : Md} (h : mb N R W D v) (h0 : w.1 0 = v.1 0) (h5 : w.1 5 = v.1 5) (h2 : w.2 = v.2) : mb N R W D w := by
  obtain ⟨a0, a1, a2, a3, a4, a5, a6, a7⟩ := id h
  refine ⟨by rw [h5]; exact a0, by rw [h0]; exact a1, a2, a3, by rw [h2]; exact a4, ?_, ?_, by rw [h2]; exact a7⟩
  · rw [h0, h2]
    exact a5
  · rw [h2]
    exact a6
theorem mb_sm {N R W D : Int} {v w : Md} (h : mb N R W D v) (s : SM v w) : mb N R W D w := mb_k h (s.1 0 (by decide)) (s.1 5 (by decide)) s.2
/-- a peek of the class, and what every reference state with this text does there -/
theorem fz_peek {K : Int32 → Tp → Prop} {m0 : Md} {N R W D : Int} {t : Tp} {v : Md} (hV : VV m0 R W D t v) (hM : mb N R W D v) (h : wp_X5_peek K t) : ∃ r u, K r u ∧ r = tb5 u (u.1 1) ∧ ¬ r = 32 ∧ (t.1 1).toInt ≤ (u.1 1).toInt ∧ (∀ w, VV m0 R W D t w → ∀ P, wp_X7_nextByte P w → ∃ w', P r w' ∧ VV m0 R W D u w' ∧ SM w w' ∧ r = tb7 w' (w'.1 6)) := by
  obtain ⟨r, u, h6, z⟩ := fz2 (F := fun P => wp_X5_peek P t) (dt_X5_peek t) h
  have key : ∀ w, VV m0 R W D t w → ∀ P, wp_X7_nextByte P w → ∃ w', P r w' ∧ VV m0 R W D u w' ∧ SM w w' ∧ r = tb7 w' (w'.1 6) ∧ ¬ r = 32 ∧ (w.1 6).toInt ≤ (w'.1 6).toInt := by
    intro w hw P h7
    obtain ⟨u', w', ⟨c1, c2⟩, h7, a3, a4, a5, a6, _⟩ := sm_peek hw.1 z h7
    subst c2
    rw [← c1]
    exact ⟨w', h7, VV_sm hw (FR_sm a4) a3, FR_sm a4, rfl, a5, a6⟩
  have r5 := hV.1.2.2
  have n5 := hM.1
  obtain ⟨w', _, q1, q2, q3, q4, q5⟩ := key v hV (fun _ _ => True) (wq_X7_nextByte hM (by omega) (fun _ _ _ _ _ _ _ _ => trivial))
  have a1 := congrArg Int32.toInt hV.1.2.1
  have a2 := congrArg Int32.toInt q1.1.2.1
  refine ⟨r, u, h6, ?_, q4, by omega, fun w hw P h7 => ?_⟩
  · rw [q3, q1.1.2.1]
    exact (tb_eq q1.1.1 _).symm
  · obtain ⟨w2, p1, p2, p3, p4, _⟩ := key w hw P h7
    exact ⟨w2, p1, p2, p3, p4⟩
theorem VV_b {m0 : Md} {R W D : Int} {u : Tp} {w : Md} {r : Int32} (hw : VV m0 R W D u w) (hr : r = tb5 u (u.1 1)) : tb7 w (w.1 6) = r := by
  rw [hr, hw.1.2.1]
  exact (tb_eq hw.1.1 _).symm
def nxt (u : Tp) : Tp := ((va_up u.1 1 ((u.1 1) + 1)), u.2)
theorem VV_nxt {m0 : Md} {R W D : Int} {u : Tp} {w : Md} (hw : VV m0 R W D u w) (hr : ¬ tb7 w (w.1 6) = -1) : VV m0 R W D (nxt u) ((va_up w.1 6 ((w.1 6) + 1)), w.2.1, w.2.2.1, w.2.2.2) ∧ ((nxt u).1 1).toInt = (u.1 1).toInt + 1 := by
  have lt := tb7_lt hr
  have b5 := hw.1.1.2.2
  have b6 := hw.1.2.2
  have e1 : (1 : Int32).toInt = 1 := rfl
  have a1 := congrArg Int32.toInt hw.1.2.1
  have s1 := nw (tq_addr e1 (u.1 1)) (by omega)
  exact ⟨VV_sm hw (SM_up w (by decide)) (RT_step hw.1 lt), s1⟩
theorem sep_of {m0 : Md} {R W D : Int} {t u : Tp} {r : Int32} (hz : ∀ w, VV m0 R W D t w → ∀ P, wp_X7_nextByte P w → ∃ w', P r w' ∧ VV m0 R W D u w' ∧ SM w w' ∧ r = tb7 w' (w'.1 6)) : (r = 59 → SEP m0 R W D t (nxt u)) ∧ (¬ r = 59 → NSP m0 R W D t u) := by
  refine ⟨fun c v hV P h7 => ?_, fun c v hV P h7 => ?_⟩
  · unfold wp_X7_takesByte at h7
    obtain ⟨w, h7, a, b, e⟩ := hz v hV _ h7
    have nn := VV_nxt a (by rw [← e, c]; decide)
    exact ⟨_, h7.2 c, nn.1, SM_tr b (SM_up w (by decide))⟩
  · unfold wp_X7_takesByte at h7
    obtain ⟨w, h7, a, b, e⟩ := hz v hV _ h7
    exact ⟨_, h7.1 c, a, b⟩
theorem cls_of {m0 : Md} {R W D : Int} {u : Tp} {r : Int32} (hr : r = tb5 u (u.1 1)) (h41 : r = 41) : CLS m0 R W D u (nxt u) := by
  intro v hV P h7
  have eb := VV_b hV hr
  unfold wp_X7_mustByte wp_X7_takesByte at h7
  have h7 := e7_next (by rw [eb, h41]; decide) h7
  rw [eb] at h7
  have nn := VV_nxt hV (by rw [eb, h41]; decide)
  exact ⟨_, (h7.2 h41).1 (by decide), nn.1, SM_up v (by decide)⟩
theorem cls_no {m0 : Md} {R W D : Int} {u : Tp} {v : Md} {r : Int32} {P6 : Tp → Prop} {P : Int32 → Md → Prop} (hV : VV m0 R W D u v) (hr : r = tb5 u (u.1 1)) (hb : ¬ r = 32) (h41 : ¬ r = 41) (h6 : wp_X5_blame P6 u (u.1 1) 1) (h7 : wp_X7_mustByte P v 41) : ∃ u' v', P6 u' ∧ P 0 v' ∧ ¬ u'.1 5 = 0 ∧ v'.1 7 = u'.1 5 ∧ SM v v' := by
  have eb := VV_b hV hr
  unfold wp_X7_mustByte wp_X7_takesByte at h7
  have h7 := e7_next (by rw [eb]; exact hb) h7
  rw [eb] at h7
  have b5 := hV.1.1.2.2
  have b6 := hV.1.2.2
  obtain ⟨u', v', h6, h7, f, k⟩ := sm_fault hV.1.2.2.2.2 hV.1.2.1 (by omega) (by omega) (by decide) (by decide) h6 ((h7.1 h41).2 rfl)
  exact ⟨u', v', h6, h7.1 rfl, k.2, k.1.symm, FR_sm f⟩
theorem end_no {m0 : Md} {R W D : Int} {u : Tp} {v : Md} {P6 : Tp → Prop} {P : Int32 → Md → Prop} (hV : VV m0 R W D u v) (h6 : wp_X5_blame P6 u (u.1 1) 1) (h7 : wp_X7_fails P v 1 (v.1 6)) : ∃ u' v', P6 u' ∧ P 0 v' ∧ ¬ u'.1 5 = 0 ∧ v'.1 7 = u'.1 5 ∧ SM v v' := by
  have b5 := hV.1.1.2.2
  have b6 := hV.1.2.2
  obtain ⟨u', v', h6, h7, f, k⟩ := sm_fault hV.1.2.2.2.2 hV.1.2.1 (by omega) (by omega) (by decide) (by decide) h6 h7
  exact ⟨u', v', h6, h7, k.2, k.1.symm, FR_sm f⟩
