/-! A program as a tree: how it lies in the text, and in the class's rows. -/
def SEP (m0 : Md) (R W D : Int) (t t' : Tp) : Prop := ∀ (v : Md), VV m0 R W D t v → ∀ P, wp_X7_takesByte P v 59 → ∃ v', P 1 v' ∧ VV m0 R W D t' v' ∧ SM v v'
def NSP (m0 : Md) (R W D : Int) (t t' : Tp) : Prop := ∀ (v : Md), VV m0 R W D t v → ∀ P, wp_X7_takesByte P v 59 → ∃ v', P 0 v' ∧ VV m0 R W D t' v' ∧ SM v v'
def CLS (m0 : Md) (R W D : Int) (t t' : Tp) : Prop := ∀ (v : Md), VV m0 R W D t v → ∀ P, wp_X7_mustByte P v 41 → ∃ v', P 1 v' ∧ VV m0 R W D t' v' ∧ SM v v'
def TST (m0 : Md) (R W D : Int) (d : Nat) (t : Tp) (n : Int32) (t' : Tp) : Prop := ∀ (v : Md) (La Lb : LTY) (P : Int32 → Md → Prop) (x : Int32), VV m0 R W D t v → (v.1 14).toInt = (d : Int) → GO (GT La Lb) P v x → ∃ v', VV m0 R W D t' v' ∧ SM v v' ∧ wp_X7_isDone (fun r u => ∃ n90, Lb (WP P) (ET (WP P)) n90 ((va_up u.1 14 ((u.1 14) + 1)), u.2.1, u.2.2.1, u.2.2.2) x n r (u.1 6) 0) v' x
/-- a step's places in the rows -/
def AF (s : Pg) (lo : Nat) (k a b q : Int32) : Prop := s.2 0 lo = k ∧ s.2 1 lo = a ∧ s.2 2 lo = b ∧ s.2 3 lo = q ∧ (s.2 4 lo).toInt = (lo : Int) + 1
def AT (s : Pg) (lo : Nat) (n : Int32) (e : Nat) : Prop := (s.2 0 lo = 12 ∧ s.2 1 lo = n) ∧ (s.2 4 lo).toInt = (e : Int) ∧ lo + 1 < e
def CLO (m0 : Md) (R W D : Int) (s : Pg) (X : Nat → Tp → Nat → Tp → Nat → Prop) : Prop := (∀ (d : Nat) (t t1 t2 : Tp) (k a b q : Int32) (lo : Nat), BST m0 R W D t k a b q t1 → KB m0 R W k a b q → NSP m0 R W D t1 t2 → AF s lo k a b q → X d t lo t2 (lo + 1)) ∧ (∀ (d : Nat) (t t1 t2 t3 : Tp) (k a b q : Int32) (lo hi : Nat), BST m0 R W D t k a b q t1 → KB m0 R W k a b q → SEP m0 R W D t1 t2 → AF s lo k a b q → X d t2 (lo + 1) t3 hi → X d t lo t3 hi) ∧ (∀ (d : Nat) (t t1 t2 t3 t4 : Tp) (n : Int32) (lo e : Nat), TST m0 R W D d t n t1 → d < 3 → (0 ≤ n.toInt ∧ n.toInt ≤ 20) → AT s lo n e → X (d + 1) t1 (lo + 1) t2 e → CLS m0 R W D t2 t3 → NSP m0 R W D t3 t4 → X d t lo t4 e) ∧ (∀ (d : Nat) (t t1 t2 t3 t4 t5 : Tp) (n : Int32) (lo e hi : Nat), TST m0 R W D d t n t1 → d < 3 → (0 ≤ n.toInt ∧ n.toInt ≤ 20) → AT s lo n e → X (d + 1) t1 (lo + 1) t2 e → CLS m0 R W D t2 t3 → SEP m0 R W D t3 t4 → X d t4 e t5 hi → X d t lo t5 hi)
/-- a list of steps, in the text from t to t', in the rows from lo to hi -/
def PRS (m0 : Md) (R W D : Int) (s : Pg) (d : Nat) (t : Tp) (lo : Nat) (t' : Tp) (hi : Nat) : Prop := ∀ X : Nat → Tp → Nat → Tp → Nat → Prop, CLO m0 R W D s X → X d t lo t' hi
theorem PRS_c (m0 : Md) (R W D : Int) (s : Pg) : CLO m0 R W D s (PRS m0 R W D s) := ⟨fun d t t1 t2 k a b q lo g1 g2 g3 g4 X c => c.1 d t t1 t2 k a b q lo g1 g2 g3 g4, fun d t t1 t2 t3 k a b q lo hi g1 g2 g3 g4 g5 X c => c.2.1 d t t1 t2 t3 k a b q lo hi g1 g2 g3 g4 (g5 X c), fun d t t1 t2 t3 t4 n lo e g1 g2 g3 g4 g5 g6 g7 X c => c.2.2.1 d t t1 t2 t3 t4 n lo e g1 g2 g3 g4 (g5 X c) g6 g7, fun d t t1 t2 t3 t4 t5 n lo e hi g1 g2 g3 g4 g5 g6 g7 g8 X c => c.2.2.2 d t t1 t2 t3 t4 t5 n lo e hi g1 g2 g3 g4 (g5 X c) g6 g7 (g8 X c)⟩
section PRC
variable {m0 : Md} {R W D : Int} {s : Pg} {d : Nat} {t t1 t2 t3 t4 t5 : Tp} {k a b q n : Int32} {lo hi e : Nat}
theorem PRS_b1 (g1 : BST m0 R W D t k a b q t1) (g2 : KB m0 R W k a b q) (g3 : NSP m0 R W D t1 t2) (g4 : AF s lo k a b q) : PRS m0 R W D s d t lo t2 (lo + 1) := (PRS_c m0 R W D s).1 d t t1 t2 k a b q lo g1 g2 g3 g4
theorem PRS_bc (g1 : BST m0 R W D t k a b q t1) (g2 : KB m0 R W k a b q) (g3 : SEP m0 R W D t1 t2) (g4 : AF s lo k a b q) (g5 : PRS m0 R W D s d t2 (lo + 1) t3 hi) : PRS m0 R W D s d t lo t3 hi := (PRS_c m0 R W D s).2.1 d t t1 t2 t3 k a b q lo hi g1 g2 g3 g4 g5
theorem PRS_t1 (g1 : TST m0 R W D d t n t1) (g2 : d < 3) (g3 : 0 ≤ n.toInt ∧ n.toInt ≤ 20) (g4 : AT s lo n e) (g5 : PRS m0 R W D s (d + 1) t1 (lo + 1) t2 e) (g6 : CLS m0 R W D t2 t3) (g7 : NSP m0 R W D t3 t4) : PRS m0 R W D s d t lo t4 e := (PRS_c m0 R W D s).2.2.1 d t t1 t2 t3 t4 n lo e g1 g2 g3 g4 g5 g6 g7
theorem PRS_tc (g1 : TST m0 R W D d t n t1) (g2 : d < 3) (g3 : 0 ≤ n.toInt ∧ n.toInt ≤ 20) (g4 : AT s lo n e) (g5 : PRS m0 R W D s (d + 1) t1 (lo + 1) t2 e) (g6 : CLS m0 R W D t2 t3) (g7 : SEP m0 R W D t3 t4) (g8 : PRS m0 R W D s d t4 e t5 hi) : PRS m0 R W D s d t lo t5 hi := (PRS_c m0 R W D s).2.2.2 d t t1 t2 t3 t4 t5 n lo e hi g1 g2 g3 g4 g5 g6 g7 g8
end PRC
theorem PRS_ind {m0 : Md} {R W D : Int} {s : Pg} {M : Nat → Tp → Nat → Tp → Nat → Prop} (h1 : ∀ (d : Nat) (t t1 t2 : Tp) (k a b q : Int32) (lo : Nat), BST m0 R W D t k a b q t1 → KB m0 R W k a b q → NSP m0 R W D t1 t2 → AF s lo k a b q → M d t lo t2 (lo + 1)) (h2 : ∀ (d : Nat) (t t1 t2 t3 : Tp) (k a b q : Int32) (lo hi : Nat), BST m0 R W D t k a b q t1 → KB m0 R W k a b q → SEP m0 R W D t1 t2 → AF s lo k a b q → PRS m0 R W D s d t2 (lo + 1) t3 hi → M d t2 (lo + 1) t3 hi → M d t lo t3 hi) (h3 : ∀ (d : Nat) (t t1 t2 t3 t4 : Tp) (n : Int32) (lo e : Nat), TST m0 R W D d t n t1 → d < 3 → (0 ≤ n.toInt ∧ n.toInt ≤ 20) → AT s lo n e → PRS m0 R W D s (d + 1) t1 (lo + 1) t2 e → M (d + 1) t1 (lo + 1) t2 e → CLS m0 R W D t2 t3 → NSP m0 R W D t3 t4 → M d t lo t4 e) (h4 : ∀ (d : Nat) (t t1 t2 t3 t4 t5 : Tp) (n : Int32) (lo e hi : Nat), TST m0 R W D d t n t1 → d < 3 → (0 ≤ n.toInt ∧ n.toInt ≤ 20) → AT s lo n e → PRS m0 R W D s (d + 1) t1 (lo + 1) t2 e → M (d + 1) t1 (lo + 1) t2 e → CLS m0 R W D t2 t3 → SEP m0 R W D t3 t4 → PRS m0 R W D s d t4 e t5 hi → M d t4 e t5 hi → M d t lo t5 hi) {d : Nat} {t t' : Tp} {lo hi : Nat} (h : PRS m0 R W D s d t lo t' hi) : M d t lo t' hi := by
  have k := h (fun d t lo t' hi => PRS m0 R W D s d t lo t' hi ∧ M d t lo t' hi) ⟨fun d t t1 t2 k a b q lo g1 g2 g3 g4 => ⟨PRS_b1 g1 g2 g3 g4, h1 d t t1 t2 k a b q lo g1 g2 g3 g4⟩, fun d t t1 t2 t3 k a b q lo hi g1 g2 g3 g4 g5 => ⟨PRS_bc g1 g2 g3 g4 g5.1, h2 d t t1 t2 t3 k a b q lo hi g1 g2 g3 g4 g5.1 g5.2⟩, fun d t t1 t2 t3 t4 n lo e g1 g2 g3 g4 g5 g6 g7 => ⟨PRS_t1 g1 g2 g3 g4 g5.1 g6 g7, h3 d t t1 t2 t3 t4 n lo e g1 g2 g3 g4 g5.1 g5.2 g6 g7⟩, fun d t t1 t2 t3 t4 t5 n lo e hi g1 g2 g3 g4 g5 g6 g7 g8 => ⟨PRS_tc g1 g2 g3 g4 g5.1 g6 g7 g8.1, h4 d t t1 t2 t3 t4 t5 n lo e hi g1 g2 g3 g4 g5.1 g5.2 g6 g7 g8.1 g8.2⟩⟩
  exact k.2
theorem PRS_lt {m0 : Md} {R W D : Int} {s : Pg} {d : Nat} {t t' : Tp} {lo hi : Nat} (h : PRS m0 R W D s d t lo t' hi) : lo < hi := PRS_ind (M := fun _ _ lo _ hi => lo < hi) (fun _ _ _ _ _ _ _ _ lo _ _ _ _ => by omega) (fun _ _ _ _ _ _ _ _ _ lo hi _ _ _ _ _ g => by omega) (fun _ _ _ _ _ _ _ lo e _ _ _ g _ _ _ _ => by have := g.2.2; omega) (fun _ _ _ _ _ _ _ _ lo e hi _ _ _ g _ _ _ _ _ g2 => by have := g.2.2; omega) h
theorem AF_k {s s' : Pg} {lo : Nat} {k a b q : Int32} (h : AF s lo k a b q) (g : ∀ j, j < 5 → s'.2 j lo = s.2 j lo) : AF s' lo k a b q := by
  unfold AF
  rw [g 0 (by decide), g 1 (by decide), g 2 (by decide), g 3 (by decide), g 4 (by decide)]
  exact h
theorem AT_k {s s' : Pg} {lo e : Nat} {n : Int32} (h : AT s lo n e) (g : ∀ j, j < 5 → s'.2 j lo = s.2 j lo) : AT s' lo n e := by
  unfold AT
  rw [g 0 (by decide), g 1 (by decide), g 4 (by decide)]
  exact h
theorem PRS_k {m0 : Md} {R W D : Int} {s s' : Pg} {d : Nat} {t t' : Tp} {lo hi : Nat} (h : PRS m0 R W D s d t lo t' hi) : (∀ j, j < 5 → ∀ i, lo ≤ i → i < hi → s'.2 j i = s.2 j i) → PRS m0 R W D s' d t lo t' hi := by
  refine PRS_ind (M := fun d t lo t' hi => (∀ j, j < 5 → ∀ i, lo ≤ i → i < hi → s'.2 j i = s.2 j i) → PRS m0 R W D s' d t lo t' hi) (fun d t t1 t2 k a b q lo g1 g2 g3 g4 g => ?_) (fun d t t1 t2 t3 k a b q lo hi g1 g2 g3 g4 g5 ih g => ?_) (fun d t t1 t2 t3 t4 n lo e g1 g2 g3 g4 g5 ih g6 g7 g => ?_) (fun d t t1 t2 t3 t4 t5 n lo e hi g1 g2 g3 g4 g5 ih g6 g7 g8 ih2 g => ?_) h
  · exact PRS_b1 g1 g2 g3 (AF_k g4 (fun j hj => g j hj lo (by omega) (by omega)))
  · have l := PRS_lt g5
    exact PRS_bc g1 g2 g3 (AF_k g4 (fun j hj => g j hj lo (by omega) (by omega))) (ih (fun j hj i h1 h2 => g j hj i (by omega) h2))
  · have l := PRS_lt g5
    exact PRS_t1 g1 g2 g3 (AT_k g4 (fun j hj => g j hj lo (by omega) (by omega))) (ih (fun j hj i h1 h2 => g j hj i (by omega) h2)) g6 g7
  · have l := PRS_lt g5
    have l2 := PRS_lt g8
    exact PRS_tc g1 g2 g3 (AT_k g4 (fun j hj => g j hj lo (by omega) (by omega))) (ih (fun j hj i h1 h2 => g j hj i (by omega) (by omega))) g6 g7 (ih2 (fun j hj i h1 h2 => g j hj i (by omega) h2))
theorem mb_k {N R W D : Int} {v w : Md} (h : mb N R W D v) (h0 : w.1 0 = v.1 0) (h5 : w.1 5 = v.1 5) (h2 : w.2 = v.2) : mb N R W D w := by
  obtain ⟨a0, a1, a2, a3, a4, a5, a6, a7⟩ := id h
  refine ⟨by rw [h5]; exact a0, by rw [h0]; exact a1, a2, a3, by rw [h2]; exact a4, ?_, ?_, by rw [h2]; exact a7⟩
  · rw [h0, h2]
    exact a5
  · rw [h2]
    exact a6
theorem mb_sm {N R W D : Int} {v w : Md} (h : mb N R W D v) (s : SM v w) : mb N R W D w := mb_k h (s.1 0 (by decide)) (s.1 5 (by decide)) s.2
/-- a peek of the class, and what every reference state with this text does there -/
theorem fz_peek {K : Int32 → Tp → Prop} {m0 : Md} {N R W D : Int} {t : Tp} {v : Md} (hV : VV m0 R W D t v) (hM : mb N R W D v) (h : wp_X5_peek K t) : ∃ r u, K r u ∧ r = tb5 u (u.1 1) ∧ ¬ r = 32 ∧ (t.1 1).toInt ≤ (u.1 1).toInt ∧ (∀ w, VV m0 R W D t w → ∀ P, wp_X7_nextByte P w → ∃ w', P r w' ∧ VV m0 R W D u w' ∧ SM w w' ∧ r = tb7 w' (w'.1 6)) := by
  obtain ⟨r, u, h6, z⟩ := fz2 (F := fun P => wp_X5_peek P t) (dt_X5_peek t) h
  have key : ∀ w, VV m0 R W D t w → ∀ P, wp_X7_nextByte P w → ∃ w', P r w' ∧ VV m0 R W D u w' ∧ SM w w' ∧ r = tb7 w' (w'.1 6) ∧ ¬ r = 32 ∧ (w.1 6).toInt ≤ (w'.1 6).toInt := by
    intro w hw P h7
    obtain ⟨u', w', ⟨c1, c2⟩, h7, a3, a4, a5, a6, _⟩ := sm_peek hw.1 z h7
    subst c2
    rw [← c1]
    exact ⟨w', h7, VV_sm hw (FR_sm a4) a3, FR_sm a4, rfl, a5, a6⟩
  have r5 := hV.1.2.2
  have n5 := hM.1
  obtain ⟨w', _, q1, q2, q3, q4, q5⟩ := key v hV (fun _ _ => True) (wq_X7_nextByte hM (by omega) (fun _ _ _ _ _ _ _ _ => trivial))
  have a1 := congrArg Int32.toInt hV.1.2.1
  have a2 := congrArg Int32.toInt q1.1.2.1
  refine ⟨r, u, h6, ?_, q4, by omega, fun w hw P h7 => ?_⟩
  · rw [q3, q1.1.2.1]
    exact (tb_eq q1.1.1 _).symm
  · obtain ⟨w2, p1, p2, p3, p4, _⟩ := key w hw P h7
    exact ⟨w2, p1, p2, p3, p4⟩
theorem VV_b {m0 : Md} {R W D : Int} {u : Tp} {w : Md} {r : Int32} (hw : VV m0 R W D u w) (hr : r = tb5 u (u.1 1)) : tb7 w (w.1 6) = r := by
  rw [hr, hw.1.2.1]
  exact (tb_eq hw.1.1 _).symm
def nxt (u : Tp) : Tp := ((va_up u.1 1 ((u.1 1) + 1)), u.2)
theorem VV_nxt {m0 : Md} {R W D : Int} {u : Tp} {w : Md} (hw : VV m0 R W D u w) (hr : ¬ tb7 w (w.1 6) = -1) : VV m0 R W D (nxt u) ((va_up w.1 6 ((w.1 6) + 1)), w.2.1, w.2.2.1, w.2.2.2) ∧ ((nxt u).1 1).toInt = (u.1 1).toInt + 1 := by
  have lt := tb7_lt hr
  have b5 := hw.1.1.2.2
  have b6 := hw.1.2.2
  have e1 : (1 : Int32).toInt = 1 := rfl
  have a1 := congrArg Int32.toInt hw.1.2.1
  have s1 := nw (tq_addr e1 (u.1 1)) (by omega)
  exact ⟨VV_sm hw (SM_up w (by decide)) (RT_step hw.1 lt), s1⟩
theorem sep_of {m0 : Md} {R W D : Int} {t u : Tp} {r : Int32} (hz : ∀ w, VV m0 R W D t w → ∀ P, wp_X7_nextByte P w → ∃ w', P r w' ∧ VV m0 R W D u w' ∧ SM w w' ∧ r = tb7 w' (w'.1 6)) : (r = 59 → SEP m0 R W D t (nxt u)) ∧ (¬ r = 59 → NSP m0 R W D t u) := by
  refine ⟨fun c v hV P h7 => ?_, fun c v hV P h7 => ?_⟩
  · unfold wp_X7_takesByte at h7
    obtain ⟨w, h7, a, b, e⟩ := hz v hV _ h7
    have nn := VV_nxt a (by rw [← e, c]; decide)
    exact ⟨_, h7.2 c, nn.1, SM_tr b (SM_up w (by decide))⟩
  · unfold wp_X7_takesByte at h7
    obtain ⟨w, h7, a, b, e⟩ := hz v hV _ h7
    exact ⟨_, h7.1 c, a, b⟩
theorem cls_of {m0 : Md} {R W D : Int} {u : Tp} {r : Int32} (hr : r = tb5 u (u.1 1)) (h41 : r = 41) : CLS m0 R W D u (nxt u) := by
  intro v hV P h7
  have eb := VV_b hV hr
  unfold wp_X7_mustByte wp_X7_takesByte at h7
  have h7 := e7_next (by rw [eb, h41]; decide) h7
  rw [eb] at h7
  have nn := VV_nxt hV (by rw [eb, h41]; decide)
  exact ⟨_, (h7.2 h41).1 (by decide), nn.1, SM_up v (by decide)⟩
theorem cls_no {m0 : Md} {R W D : Int} {u : Tp} {v : Md} {r : Int32} {P6 : Tp → Prop} {P : Int32 → Md → Prop} (hV : VV m0 R W D u v) (hr : r = tb5 u (u.1 1)) (hb : ¬ r = 32) (h41 : ¬ r = 41) (h6 : wp_X5_blame P6 u (u.1 1) 1) (h7 : wp_X7_mustByte P v 41) : ∃ u' v', P6 u' ∧ P 0 v' ∧ ¬ u'.1 5 = 0 ∧ v'.1 7 = u'.1 5 ∧ SM v v' := by
  have eb := VV_b hV hr
  unfold wp_X7_mustByte wp_X7_takesByte at h7
  have h7 := e7_next (by rw [eb]; exact hb) h7
  rw [eb] at h7
  have b5 := hV.1.1.2.2
  have b6 := hV.1.2.2
  obtain ⟨u', v', h6, h7, f, k⟩ := sm_fault hV.1.2.2.2.2 hV.1.2.1 (by omega) (by omega) (by decide) (by decide) h6 ((h7.1 h41).2 rfl)
  exact ⟨u', v', h6, h7.1 rfl, k.2, k.1.symm, FR_sm f⟩
theorem end_no {m0 : Md} {R W D : Int} {u : Tp} {v : Md} {P6 : Tp → Prop} {P : Int32 → Md → Prop} (hV : VV m0 R W D u v) (h6 : wp_X5_blame P6 u (u.1 1) 1) (h7 : wp_X7_fails P v 1 (v.1 6)) : ∃ u' v', P6 u' ∧ P 0 v' ∧ ¬ u'.1 5 = 0 ∧ v'.1 7 = u'.1 5 ∧ SM v v' := by
  have b5 := hV.1.1.2.2
  have b6 := hV.1.2.2
  obtain ⟨u', v', h6, h7, f, k⟩ := sm_fault hV.1.2.2.2.2 hV.1.2.1 (by omega) (by omega) (by decide) (by decide) h6 h7
  exact ⟨u', v', h6, h7, k.2, k.1.symm, FR_sm f⟩
