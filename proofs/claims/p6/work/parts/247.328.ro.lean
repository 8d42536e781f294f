/-! A program read but not done. -/
def PX (O : (Int32 → Md → Prop) → Md → Int32 → Prop) (P : Int32 → Md → Prop) (m : Nat) (v : Md) (x : Int32) : Prop := GL O P (fun t _ => P 0 t) (fun t _ => P 1 t) m v x
theorem px_sep {O : (Int32 → Md → Prop) → Md → Int32 → Prop} {P : Int32 → Md → Prop} {m0 : Md} {R W D : Int} {t t' : Tp} {m : Nat} {v : Md} {x : Int32} (hs : SEP m0 R W D t t') (hV : VV m0 R W D t v) (h : PX O P m v x) : ∃ v' m', VV m0 R W D t' v' ∧ SM v v' ∧ O (fun r u => (¬ r = 0 → PX O P m' u x) ∧ (r = 0 → P 0 u)) v' x := by
  cases m with
  | zero => exact (show False from h).elim
  | succ m =>
    unfold PX GL at h
    obtain ⟨v', h, a, b⟩ := hs v hV _ h
    exact ⟨v', m, a, b, h.2 (by decide)⟩
theorem px_nsp {O : (Int32 → Md → Prop) → Md → Int32 → Prop} {P : Int32 → Md → Prop} {m0 : Md} {R W D : Int} {t t' : Tp} {m : Nat} {v : Md} {x : Int32} (hs : NSP m0 R W D t t') (hV : VV m0 R W D t v) (h : PX O P m v x) : ∃ v', VV m0 R W D t' v' ∧ SM v v' ∧ P 1 v' := by
  cases m with
  | zero => exact (show False from h).elim
  | succ m =>
    unfold PX GL at h
    obtain ⟨v', h, a, b⟩ := hs v hV _ h
    exact ⟨v', a, b, h.1 rfl⟩
theorem id_ro {Q : Int32 → Md → Prop} {v : Md} {x : Int32} (h : wp_X7_isDone Q v x) (hr : x = 0 ∨ v.1 13 = 200) : Q 0 v := by
  unfold wp_X7_isDone at h
  by_cases c : x = 0
  · exact h.1 c
  · rcases hr with hr | hr
    · exact (c hr).elim
    · exact (h.2 c).2 hr
/-- into a body, at the place where it begins -/
def inB (v : Md) : Md := ((va_up (va_up v.1 14 ((v.1 14) + 1)) 6 (v.1 6)), v.2.1, v.2.2.1, v.2.2.2)
def outB (v : Md) : Md := ((va_up v.1 14 ((v.1 14) - 1)), v.2.1, v.2.2.1, v.2.2.2)
theorem ad_sb (a : Int32) : a + 1 - 1 = a := by
  rw [Int32.add_comm]
  exact sub_add32 1 a
theorem SM_io {v v2 v3 : Md} (a : SM (inB v) v2) (b : SM v2 v3) : SM v (outB v3) := by
  have q := SM_tr a b
  refine ⟨fun i hi => ?_, q.2⟩
  show va_up v3.1 14 (v3.1 14 - 1) i = _
  by_cases g : i = 14
  · subst g
    rw [va_up_self, q.1 14 (by decide)]
    show v.1 14 + 1 - 1 = _
    exact ad_sb _
  · rw [va_n g, q.1 i hi]
    show va_up (va_up v.1 14 (v.1 14 + 1)) 6 (v.1 6) i = _
    rw [va_n (fun e => hi (by rw [e]; decide)), va_n g]
def MRO (m0 : Md) (R W D : Int) (d : Nat) (t : Tp) (t' : Tp) : Prop := ∀ (La Lb : LTY) (Q P : Int32 → Md → Prop) (v : Md) (x : Int32), d ≤ 3 → (d < 3 → Lb = GTL (LV (3 - d))) → VV m0 R W D t v → (v.1 14).toInt = (d : Int) → (x = 0 ∨ v.1 13 = 200) → GO (GT La Lb) Q v x → (∀ u, Q 1 u → ∃ m, PX (GO (GT La Lb)) P m u x) → ∃ v', P 1 v' ∧ VV m0 R W D t' v' ∧ SM v v'
/-- a body, read but not done, to the byte behind it -/
theorem ro_body {m0 : Md} {R W D : Int} {d : Nat} {t1 t2 : Tp} (d3 : d < 3) (ih : MRO m0 R W D (d + 1) t1 t2) {P : Int32 → Md → Prop} {v : Md} {x : Int32} (hV : VV m0 R W D t1 v) (h14 : (v.1 14).toInt = (d : Int) + 1) (hr : x = 0 ∨ v.1 13 = 200) (h : LV (3 - d) P v x) : ∃ v', P 1 v' ∧ VV m0 R W D t2 v' ∧ SM v v' := by
  obtain ⟨La', Lb', eL, hL'⟩ := LV_e (k := 3 - d) (by omega) (by omega)
  rw [eL] at h
  unfold GA at h
  exact ih La' Lb' _ P v x (by omega) (fun g => by rw [hL' (by omega)]; congr 1) hV (by omega) hr h (fun u g => g.1 (by decide))
theorem ro_times {m0 : Md} {R W D : Int} {d : Nat} {t t1 t2 t3 : Tp} {n : Int32} (d3 : d < 3) (hst : TST m0 R W D d t n t1) (ih : MRO m0 R W D (d + 1) t1 t2) (hc : CLS m0 R W D t2 t3) {La Lb : LTY} {Q : Int32 → Md → Prop} {v : Md} {x : Int32} (hL : d < 3 → Lb = GTL (LV (3 - d))) (hV : VV m0 R W D t v) (h14 : (v.1 14).toInt = (d : Int)) (hr : x = 0 ∨ v.1 13 = 200) (h7 : GO (GT La Lb) Q v x) : ∃ v', Q 1 v' ∧ VV m0 R W D t3 v' ∧ SM v v' := by
  have e1 : (1 : Int32).toInt = 1 := rfl
  obtain ⟨v1, vv1, s1, h7⟩ := hst v La Lb Q x hV h14 h7
  have a14 : v1.1 14 = v.1 14 := s1.1 14 (by decide)
  have i14 := congrArg Int32.toInt a14
  have s14 := nw (tq_addr e1 (v1.1 14)) (by omega)
  obtain ⟨n90, h7⟩ := id_ro h7 (by rw [s1.1 13 (by decide)]; exact hr)
  rw [hL d3] at h7
  cases n90 with
  | zero => exact (show False from h7).elim
  | succ n90 =>
    unfold GTL at h7
    have h7 := (h7.1 rfl).1 rfl
    have h7 : LV (3 - d) _ (inB v1) 0 := h7
    obtain ⟨v2, h7, vv2, s2⟩ := ro_body d3 ih (show VV m0 R W D t1 (inB v1) from vv1) (by show (v1.1 14 + 1).toInt = _; omega) (Or.inl rfl) h7
    have h7 := h7.1 (by decide)
    cases n90 with
    | zero => exact (show False from h7).elim
    | succ n90 =>
      unfold GTL at h7
      have h7 := h7.2 (by decide)
      have h7 : ET (WP Q) v2 x n 0 (v1.1 6) (0 + 1) := by
        by_cases c : n ≤ 0 + 1
        · exact h7.1 c
        · exact (h7.2 c).1 rfl
      unfold ET at h7
      obtain ⟨v3, h7, vv3, s3⟩ := hc v2 vv2 _ h7
      exact ⟨outB v3, (h7.1 (by decide)).2, vv3, SM_tr s1 (SM_io s2 s3)⟩
theorem prs_ro {m0 : Md} {R W D : Int} {s : Pg} {d : Nat} {t t' : Tp} {lo hi : Nat} (h : PRS m0 R W D s d t lo t' hi) : MRO m0 R W D d t t' := by
  refine PRS_ind (M := fun d t _ t' _ => MRO m0 R W D d t t') (fun d t t1 t2 k a b q lo bst kb ns _ => ?_) (fun d t t1 t2 t3 k a b q lo hi bst kb sp _ pr ih => ?_) (fun d t t1 t2 t3 t4 n lo e tst d3 nb _ pb ihb cl ns => ?_) (fun d t t1 t2 t3 t4 t5 n lo e hi tst d3 nb _ pb ihb cl sp pr ih => ?_) h
  · intro La Lb Q P v x hd hL hV h14 hr h7 hQ
    obtain ⟨_, _, v1, vv1, s1, h7⟩ := bst v _ Q x hV h7
    obtain ⟨m, h7⟩ := hQ _ ((id_ro h7 (by rw [s1.1 13 (by decide)]; exact hr)).1 rfl).2
    obtain ⟨v2, vv2, s2, h7⟩ := px_nsp ns vv1 h7
    exact ⟨v2, h7, vv2, SM_tr s1 s2⟩
  · intro La Lb Q P v x hd hL hV h14 hr h7 hQ
    obtain ⟨_, _, v1, vv1, s1, h7⟩ := bst v _ Q x hV h7
    obtain ⟨m, h7⟩ := hQ _ ((id_ro h7 (by rw [s1.1 13 (by decide)]; exact hr)).1 rfl).2
    obtain ⟨v2, m', vv2, s2, h7⟩ := px_sep sp vv1 h7
    have s := SM_tr s1 s2
    obtain ⟨v3, q1, q2, q3⟩ := ih La Lb _ P v2 x hd hL vv2 (by rw [s.1 14 (by decide)]; exact h14) (by rw [s.1 13 (by decide)]; exact hr) h7 (fun u g => ⟨m', g.1 (by decide)⟩)
    exact ⟨v3, q1, q2, SM_tr s q3⟩
  · intro La Lb Q P v x hd hL hV h14 hr h7 hQ
    obtain ⟨v1, h7, vv1, s1⟩ := ro_times d3 tst ihb cl hL hV h14 hr h7
    obtain ⟨m, h7⟩ := hQ _ h7
    obtain ⟨v2, vv2, s2, h7⟩ := px_nsp ns vv1 h7
    exact ⟨v2, h7, vv2, SM_tr s1 s2⟩
  · intro La Lb Q P v x hd hL hV h14 hr h7 hQ
    obtain ⟨v1, h7, vv1, s1⟩ := ro_times d3 tst ihb cl hL hV h14 hr h7
    obtain ⟨m, h7⟩ := hQ _ h7
    obtain ⟨v2, m', vv2, s2, h7⟩ := px_sep sp vv1 h7
    have s := SM_tr s1 s2
    obtain ⟨v3, q1, q2, q3⟩ := ih La Lb _ P v2 x hd hL vv2 (by rw [s.1 14 (by decide)]; exact h14) (by rw [s.1 13 (by decide)]; exact hr) h7 (fun u g => ⟨m', g.1 (by decide)⟩)
    exact ⟨v3, q1, q2, SM_tr s q3⟩
