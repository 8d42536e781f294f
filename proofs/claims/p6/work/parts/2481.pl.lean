/-! The law's calls by a relation of class and reference. -/
def c_W (q : Nat → ClassId) (h : Nat) (s1 : Tp) (s2 s3 : Bd) (s4 : Mo) (s5 : Pg) (s6 : Pa) (z7 : Nat → Option Bd) (w : va_W) : Prop := ∃ (a0 a1 a2 a3 a4 a5 : Nat → Nat) (p8 s8 p9 : Nat) (AA BB : Nat → Nat → Nat), h = a0 0 ∧ w = (cb_l q a0 a1 a2 a3 a4 a5 p8 s8 p9 AA BB s1 s2 s3 s4 s5 s6 z7).flatten
def m_W (q : Nat → ClassId) (h : Nat) (m : Md) (w : va_W) : Prop := ∃ b : Nat → Nat, h = b 0 ∧ w = md_v b q m
set_option maxHeartbeats 4000000 in
theorem pl_feed {l : Launch} {D : va_G} {q : Nat → ClassId} {h h2 : Nat} {w w2 : va_W} {s1 : Tp} {s2 s3 : Bd} {s4 : Mo} {s5 : Pg} {s6 : Pa} {z7 : Nat → Option Bd} {m : Md} {N : Int} {x1 : Int32} {x2 : Int32} {x3 : Int32} {x4 : Int32} {x5 : Int32} (hW : c_W q h s1 s2 s3 s4 s5 s6 z7 w) (hV : m_W q h2 m w2) (hJ : JJ N s1 s2 s3 s4 s5 s6 z7 m) : ∃ (r6 r7 : Int32) (M : Int) (s1n : Tp) (mn : Md), un_i l D q 5 yX6_feed cX6_feed 6 (some .int) ({ frames := 1, cells := 0, slots := 0, locals := 22 } : Room) h [.int x1, .int x2, .int x3, .int x4, .int x5] 0 0 w (fun r w3 => r = r6 ∧ c_W q h s1n s2 s3 s4 s5 s6 z7 w3) ∧ un_i l D q 6 yX7_feed cX7_feed 6 (some .int) ({ frames := 1, cells := 0, slots := 0, locals := 22 } : Room) h2 [.int x1, .int x2, .int x3, .int x4, .int x5] 0 0 w2 (fun r w3 => r = r7 ∧ m_W q h2 mn w3) ∧ JJ M s1n s2 s3 s4 s5 s6 z7 mn := by
  obtain ⟨a0, a1, a2, a3, a4, a5, p8, s8, p9, AA, BB, e1, e2⟩ := hW
  obtain ⟨b, f1, f2⟩ := hV
  subst e1
  subst f1
  obtain ⟨r6, r7, M, s1n, mn, v6, v7, hn⟩ := pm_feed (x1 := x1) (x2 := x2) (x3 := x3) (x4 := x4) (x5 := x5) hJ
  refine ⟨r6, r7, M, s1n, mn, ?_, ?_, hn⟩
  · intro sz
    refine ⟨_, _, [bd_w a2 q s2, bd_w a3 q s3, mo_w a4 q s4, pg_w a5 q s5, pa_o p8 p9 s6, pa_r p9 q 10 AA s6.2, ps_w q 10 AA s6.2, pa_r s8 q 2 BB z7, ps_w q 2 BB z7].flatten, _, _, _, c2_X6_feed (a1 := a1) (a2 := a2) (a3 := a3) (a4 := a4) (a5 := a5) (p8 := p8) (s8 := s8) (post := fun r y_s1 => r = r6 ∧ y_s1 = s1n) (v6 _ ⟨rfl, rfl⟩), rfl, ?_, fun r u hu => ?_⟩
    · rw [e2]
      have hp := bk_perm (L := cb_l q a0 a1 a2 a3 a4 a5 p8 s8 p9 AA BB s1 s2 s3 s4 s5 s6 z7) (L2 := [fo_w (a0 0) (a1 0) (a2 0) (a3 0) (a4 0) (a5 0) p8 s8, tp_w a1 q s1, bd_w a2 q s2, bd_w a3 q s3, mo_w a4 q s4, pg_w a5 q s5, pa_o p8 p9 s6, pa_r p9 q 10 AA s6.2, ps_w q 10 AA s6.2, pa_r s8 q 2 BB z7, ps_w q 2 BB z7]) [0, 1, 2, 3, 4, 5, 6, 7, 8, 9, 10] (show List.Perm _ (List.range 11) by decide) rfl rfl
      refine hp.trans ?_
      simp only [List.flatten_cons, List.flatten_nil, List.append_nil, List.append_assoc]
      exact List.Perm.refl _
    · obtain ⟨hr, g_s1⟩ := hu
      refine ⟨_, ⟨hr, a0, a1, a2, a3, a4, a5, p8, s8, p9, AA, BB, rfl, rfl⟩, ?_⟩
      rw [← g_s1]
      have hp := bk_perm (L := cb_l q a0 a1 a2 a3 a4 a5 p8 s8 p9 AA BB u s2 s3 s4 s5 s6 z7) (L2 := [fo_w (a0 0) (a1 0) (a2 0) (a3 0) (a4 0) (a5 0) p8 s8, tp_w a1 q u, bd_w a2 q s2, bd_w a3 q s3, mo_w a4 q s4, pg_w a5 q s5, pa_o p8 p9 s6, pa_r p9 q 10 AA s6.2, ps_w q 10 AA s6.2, pa_r s8 q 2 BB z7, ps_w q 2 BB z7]) [0, 1, 2, 3, 4, 5, 6, 7, 8, 9, 10] (show List.Perm _ (List.range 11) by decide) rfl rfl
      refine List.Perm.symm (hp.trans ?_)
      simp only [List.flatten_cons, List.flatten_nil, List.append_nil, List.append_assoc]
      exact List.Perm.refl _
  · intro sz
    refine ⟨_, _, [], _, _, _, c2_X7_feed (post := fun r u => r = r7 ∧ u = mn) (v7 _ ⟨rfl, rfl⟩), rfl, by rw [f2, List.append_nil], fun r u hu => ?_⟩
    exact ⟨_, ⟨hu.1, b, rfl, rfl⟩, by rw [List.append_nil, hu.2]⟩
set_option maxHeartbeats 4000000 in
theorem pl_end {l : Launch} {D : va_G} {q : Nat → ClassId} {h h2 : Nat} {w w2 : va_W} {s1 : Tp} {s2 s3 : Bd} {s4 : Mo} {s5 : Pg} {s6 : Pa} {z7 : Nat → Option Bd} {m : Md} {N : Int} {x1 : Int32} (hW : c_W q h s1 s2 s3 s4 s5 s6 z7 w) (hV : m_W q h2 m w2) (hJ : JJ N s1 s2 s3 s4 s5 s6 z7 m) : ∃ (r6 r7 : Int32) (M : Int) (s1n : Tp) (mn : Md), un_i l D q 5 yX6_end cX6_end 2 (some .int) ({ frames := 0, cells := 0, slots := 0, locals := 0 } : Room) h [.int x1] 0 0 w (fun r w3 => r = r6 ∧ c_W q h s1n s2 s3 s4 s5 s6 z7 w3) ∧ un_i l D q 6 yX7_end cX7_end 2 (some .int) ({ frames := 1, cells := 0, slots := 0, locals := 25 } : Room) h2 [.int x1] 0 0 w2 (fun r w3 => r = r7 ∧ m_W q h2 mn w3) ∧ JJ M s1n s2 s3 s4 s5 s6 z7 mn := by
  obtain ⟨a0, a1, a2, a3, a4, a5, p8, s8, p9, AA, BB, e1, e2⟩ := hW
  obtain ⟨b, f1, f2⟩ := hV
  subst e1
  subst f1
  obtain ⟨r6, r7, M, s1n, mn, v6, v7, hn⟩ := pm_end (x1 := x1) hJ
  refine ⟨r6, r7, M, s1n, mn, ?_, ?_, hn⟩
  · intro sz
    refine ⟨_, _, [bd_w a2 q s2, bd_w a3 q s3, mo_w a4 q s4, pg_w a5 q s5, pa_o p8 p9 s6, pa_r p9 q 10 AA s6.2, ps_w q 10 AA s6.2, pa_r s8 q 2 BB z7, ps_w q 2 BB z7].flatten, _, _, _, c2_X6_end (a1 := a1) (a2 := a2) (a3 := a3) (a4 := a4) (a5 := a5) (p8 := p8) (s8 := s8) (post := fun r y_s1 => r = r6 ∧ y_s1 = s1n) (v6 _ ⟨rfl, rfl⟩), rfl, ?_, fun r u hu => ?_⟩
    · rw [e2]
      have hp := bk_perm (L := cb_l q a0 a1 a2 a3 a4 a5 p8 s8 p9 AA BB s1 s2 s3 s4 s5 s6 z7) (L2 := [fo_w (a0 0) (a1 0) (a2 0) (a3 0) (a4 0) (a5 0) p8 s8, tp_w a1 q s1, bd_w a2 q s2, bd_w a3 q s3, mo_w a4 q s4, pg_w a5 q s5, pa_o p8 p9 s6, pa_r p9 q 10 AA s6.2, ps_w q 10 AA s6.2, pa_r s8 q 2 BB z7, ps_w q 2 BB z7]) [0, 1, 2, 3, 4, 5, 6, 7, 8, 9, 10] (show List.Perm _ (List.range 11) by decide) rfl rfl
      refine hp.trans ?_
      simp only [List.flatten_cons, List.flatten_nil, List.append_nil, List.append_assoc]
      exact List.Perm.refl _
    · obtain ⟨hr, g_s1⟩ := hu
      refine ⟨_, ⟨hr, a0, a1, a2, a3, a4, a5, p8, s8, p9, AA, BB, rfl, rfl⟩, ?_⟩
      rw [← g_s1]
      have hp := bk_perm (L := cb_l q a0 a1 a2 a3 a4 a5 p8 s8 p9 AA BB u s2 s3 s4 s5 s6 z7) (L2 := [fo_w (a0 0) (a1 0) (a2 0) (a3 0) (a4 0) (a5 0) p8 s8, tp_w a1 q u, bd_w a2 q s2, bd_w a3 q s3, mo_w a4 q s4, pg_w a5 q s5, pa_o p8 p9 s6, pa_r p9 q 10 AA s6.2, ps_w q 10 AA s6.2, pa_r s8 q 2 BB z7, ps_w q 2 BB z7]) [0, 1, 2, 3, 4, 5, 6, 7, 8, 9, 10] (show List.Perm _ (List.range 11) by decide) rfl rfl
      refine List.Perm.symm (hp.trans ?_)
      simp only [List.flatten_cons, List.flatten_nil, List.append_nil, List.append_assoc]
      exact List.Perm.refl _
  · intro sz
    refine ⟨_, _, [], _, _, _, c2_X7_end (post := fun r u => r = r7 ∧ u = mn) (v7 _ ⟨rfl, rfl⟩), rfl, by rw [f2, List.append_nil], fun r u hu => ?_⟩
    exact ⟨_, ⟨hu.1, b, rfl, rfl⟩, by rw [List.append_nil, hu.2]⟩
set_option maxHeartbeats 4000000 in
theorem pl_tell {l : Launch} {D : va_G} {q : Nat → ClassId} {h h2 : Nat} {w w2 : va_W} {s1 : Tp} {s2 s3 : Bd} {s4 : Mo} {s5 : Pg} {s6 : Pa} {z7 : Nat → Option Bd} {m : Md} {N : Int}  (hW : c_W q h s1 s2 s3 s4 s5 s6 z7 w) (hV : m_W q h2 m w2) (hJ : JJ N s1 s2 s3 s4 s5 s6 z7 m) : ∃ (r6 r7 : Int32) (M : Int) (s1n : Tp) (s2n : Bd) (s3n : Bd) (s6n : Pa) (mn : Md), un_i l D q 5 yX6_tell cX6_tell 1 (some .int) ({ frames := 10, cells := 1, slots := 6400, locals := 215 } : Room) h [] 1 6400 w (fun r w3 => r = r6 ∧ c_W q h s1n s2n s3n s4 s5 s6n z7 w3) ∧ un_i l D q 6 yX7_tell cX7_tell 2 (some .int) ({ frames := 8, cells := 0, slots := 0, locals := 171 } : Room) h2 [] 0 0 w2 (fun r w3 => r = r7 ∧ m_W q h2 mn w3) ∧ s6n.2 = s6.2 ∧ JJ M s1n s2n s3n s4 s5 s6n z7 mn := by
  obtain ⟨a0, a1, a2, a3, a4, a5, p8, s8, p9, AA, BB, e1, e2⟩ := hW
  obtain ⟨b, f1, f2⟩ := hV
  subst e1
  subst f1
  obtain ⟨r6, r7, M, s1n, s2n, s3n, s6n, mn, v6, v7, hn⟩ := pm_tell  hJ
  refine ⟨r6, r7, M, s1n, s2n, s3n, s6n, mn, ?_, ?_, hn⟩
  · intro sz
    refine ⟨_, _, [mo_w a4 q s4, pg_w a5 q s5, pa_r p9 q 10 AA s6.2, ps_w q 10 AA s6.2, pa_r s8 q 2 BB z7, ps_w q 2 BB z7].flatten, _, _, _, c2_X6_tell (a1 := a1) (a2 := a2) (a3 := a3) (a4 := a4) (a5 := a5) (p8 := p8) (s8 := s8) (p9 := p9) (AA := AA) (post := fun r y_s1 y_s2 y_s3 y_s6 => r = r6 ∧ y_s1 = s1n ∧ y_s2 = s2n ∧ y_s3 = s3n ∧ y_s6 = s6n) (v6 _ ⟨rfl, rfl, rfl, rfl, rfl⟩), rfl, ?_, fun r u hu => ?_⟩
    · rw [e2]
      have hp := bk_perm (L := cb_l q a0 a1 a2 a3 a4 a5 p8 s8 p9 AA BB s1 s2 s3 s4 s5 s6 z7) (L2 := [fo_w (a0 0) (a1 0) (a2 0) (a3 0) (a4 0) (a5 0) p8 s8, tp_w a1 q s1, bd_w a2 q s2, bd_w a3 q s3, pa_o p8 p9 s6, mo_w a4 q s4, pg_w a5 q s5, pa_r p9 q 10 AA s6.2, ps_w q 10 AA s6.2, pa_r s8 q 2 BB z7, ps_w q 2 BB z7]) [0, 1, 2, 3, 6, 4, 5, 7, 8, 9, 10] (show List.Perm _ (List.range 11) by decide) rfl rfl
      refine hp.trans ?_
      simp only [List.flatten_cons, List.flatten_nil, List.append_nil, List.append_assoc]
      exact List.Perm.refl _
    · obtain ⟨hr, g_s1, g_s2, g_s3, g_s6⟩ := hu
      refine ⟨_, ⟨hr, a0, a1, (va_up a2 12 u.1), a3, a4, a5, p8, s8, p9, AA, BB, rfl, rfl⟩, ?_⟩
      rw [← g_s1, ← g_s2, ← g_s3, ← g_s6]
      have hp := bk_perm (L := cb_l q a0 a1 (va_up a2 12 u.1) a3 a4 a5 p8 s8 p9 AA BB u.2.1 u.2.2.1 u.2.2.2.1 s4 s5 u.2.2.2.2 z7) (L2 := [fo_w (a0 0) (a1 0) (a2 0) (a3 0) (a4 0) (a5 0) p8 s8, tp_w a1 q u.2.1, bd_w (va_up a2 12 u.1) q u.2.2.1, bd_w a3 q u.2.2.2.1, pa_o p8 p9 u.2.2.2.2, mo_w a4 q s4, pg_w a5 q s5, pa_r p9 q 10 AA u.2.2.2.2.2, ps_w q 10 AA u.2.2.2.2.2, pa_r s8 q 2 BB z7, ps_w q 2 BB z7]) [0, 1, 2, 3, 6, 4, 5, 7, 8, 9, 10] (show List.Perm _ (List.range 11) by decide) rfl rfl
      refine List.Perm.symm (hp.trans ?_)
      simp only [List.flatten_cons, List.flatten_nil, List.append_nil, List.append_assoc]
      rw [show u.2.2.2.2.2 = s6.2 from (congrArg Prod.snd g_s6).trans hn.1]
  · intro sz
    refine ⟨_, _, [], _, _, _, c2_X7_tell (post := fun r u => r = r7 ∧ u = mn) (v7 _ ⟨rfl, rfl⟩), rfl, by rw [f2, List.append_nil], fun r u hu => ?_⟩
    exact ⟨_, ⟨hu.1, b, rfl, rfl⟩, by rw [List.append_nil, hu.2]⟩
set_option maxHeartbeats 4000000 in
theorem pl_row {l : Launch} {D : va_G} {q : Nat → ClassId} {h h2 : Nat} {w w2 : va_W} {s1 : Tp} {s2 s3 : Bd} {s4 : Mo} {s5 : Pg} {s6 : Pa} {z7 : Nat → Option Bd} {m : Md} {N : Int} {x1 : Int32} (hW : c_W q h s1 s2 s3 s4 s5 s6 z7 w) (hV : m_W q h2 m w2) (hJ : JJ N s1 s2 s3 s4 s5 s6 z7 m) : ∃ (r6 r7 : Int32) (M : Int) (s1n : Tp) (s2n : Bd) (s6n : Pa) (mn : Md), un_i l D q 5 yX6_row cX6_row 3 (some .int) ({ frames := 4, cells := 14, slots := 6906, locals := 146 } : Room) h [.int x1] 14 6906 w (fun r w3 => r = r6 ∧ c_W q h s1n s2n s3 s4 s5 s6n z7 w3) ∧ un_i l D q 6 yX7_row cX7_row 3 (some .int) ({ frames := 4, cells := 0, slots := 0, locals := 95 } : Room) h2 [.int x1] 0 0 w2 (fun r w3 => r = r7 ∧ m_W q h2 mn w3) ∧ JJ M s1n s2n s3 s4 s5 s6n z7 mn := by
  obtain ⟨a0, a1, a2, a3, a4, a5, p8, s8, p9, AA, BB, e1, e2⟩ := hW
  obtain ⟨b, f1, f2⟩ := hV
  subst e1
  subst f1
  obtain ⟨r6, r7, M, s1n, s2n, s6n, mn, v6, v7, hn⟩ := pm_row (x1 := x1) hJ
  refine ⟨r6, r7, M, s1n, s2n, s6n, mn, ?_, ?_, hn⟩
  · intro sz
    refine ⟨_, _, [bd_w a3 q s3, mo_w a4 q s4, pg_w a5 q s5, pa_r s8 q 2 BB z7, ps_w q 2 BB z7].flatten, _, _, _, c2_X6_row (a1 := a1) (a2 := a2) (a3 := a3) (a4 := a4) (a5 := a5) (p8 := p8) (s8 := s8) (p9 := p9) (AA := AA) (post := fun r y_s1 y_s2 y_s6 => r = r6 ∧ y_s1 = s1n ∧ y_s2 = s2n ∧ y_s6 = s6n) (v6 _ ⟨rfl, rfl, rfl, rfl⟩), rfl, ?_, fun r u hu => ?_⟩
    · rw [e2]
      have hp := bk_perm (L := cb_l q a0 a1 a2 a3 a4 a5 p8 s8 p9 AA BB s1 s2 s3 s4 s5 s6 z7) (L2 := [fo_w (a0 0) (a1 0) (a2 0) (a3 0) (a4 0) (a5 0) p8 s8, tp_w a1 q s1, bd_w a2 q s2, pa_o p8 p9 s6, pa_r p9 q 10 AA s6.2, ps_w q 10 AA s6.2, bd_w a3 q s3, mo_w a4 q s4, pg_w a5 q s5, pa_r s8 q 2 BB z7, ps_w q 2 BB z7]) [0, 1, 2, 6, 7, 8, 3, 4, 5, 9, 10] (show List.Perm _ (List.range 11) by decide) rfl rfl
      refine hp.trans ?_
      simp only [List.flatten_cons, List.flatten_nil, List.append_nil, List.append_assoc]
      exact List.Perm.refl _
    · obtain ⟨hr, g_s1, g_s2, g_s6⟩ := hu
      refine ⟨_, ⟨hr, a0, a1, a2, a3, a4, a5, p8, s8, p9, u.1, BB, rfl, rfl⟩, ?_⟩
      rw [← g_s1, ← g_s2, ← g_s6]
      have hp := bk_perm (L := cb_l q a0 a1 a2 a3 a4 a5 p8 s8 p9 u.1 BB u.2.1 u.2.2.1 s3 s4 s5 u.2.2.2 z7) (L2 := [fo_w (a0 0) (a1 0) (a2 0) (a3 0) (a4 0) (a5 0) p8 s8, tp_w a1 q u.2.1, bd_w a2 q u.2.2.1, pa_o p8 p9 u.2.2.2, pa_r p9 q 10 u.1 u.2.2.2.2, ps_w q 10 u.1 u.2.2.2.2, bd_w a3 q s3, mo_w a4 q s4, pg_w a5 q s5, pa_r s8 q 2 BB z7, ps_w q 2 BB z7]) [0, 1, 2, 6, 7, 8, 3, 4, 5, 9, 10] (show List.Perm _ (List.range 11) by decide) rfl rfl
      refine List.Perm.symm (hp.trans ?_)
      simp only [List.flatten_cons, List.flatten_nil, List.append_nil, List.append_assoc]
      exact List.Perm.refl _
  · intro sz
    refine ⟨_, _, [], _, _, _, c2_X7_row (post := fun r u => r = r7 ∧ u = mn) (v7 _ ⟨rfl, rfl⟩), rfl, by rw [f2, List.append_nil], fun r u hu => ?_⟩
    exact ⟨_, ⟨hu.1, b, rfl, rfl⟩, by rw [List.append_nil, hu.2]⟩
set_option maxHeartbeats 4000000 in
theorem pl_scroll {l : Launch} {D : va_G} {q : Nat → ClassId} {h h2 : Nat} {w w2 : va_W} {s1 : Tp} {s2 s3 : Bd} {s4 : Mo} {s5 : Pg} {s6 : Pa} {z7 : Nat → Option Bd} {m : Md} {N : Int}  (hW : c_W q h s1 s2 s3 s4 s5 s6 z7 w) (hV : m_W q h2 m w2) (hJ : JJ N s1 s2 s3 s4 s5 s6 z7 m) : ∃ (r6 r7 : Int32) (M : Int) (s1n : Tp) (s2n : Bd) (s6n : Pa) (mn : Md), un_i l D q 5 yX6_scroll cX6_scroll 2 (some .int) ({ frames := 4, cells := 14, slots := 6906, locals := 146 } : Room) h [] 14 6906 w (fun r w3 => r = r6 ∧ c_W q h s1n s2n s3 s4 s5 s6n z7 w3) ∧ un_i l D q 6 yX7_scroll cX7_scroll 2 (some .int) ({ frames := 5, cells := 0, slots := 0, locals := 120 } : Room) h2 [] 0 0 w2 (fun r w3 => r = r7 ∧ m_W q h2 mn w3) ∧ JJ M s1n s2n s3 s4 s5 s6n z7 mn ∧ r6 = r7 := by
  obtain ⟨a0, a1, a2, a3, a4, a5, p8, s8, p9, AA, BB, e1, e2⟩ := hW
  obtain ⟨b, f1, f2⟩ := hV
  subst e1
  subst f1
  obtain ⟨r6, r7, M, s1n, s2n, s6n, mn, v6, v7, hn⟩ := pm_scroll  hJ
  refine ⟨r6, r7, M, s1n, s2n, s6n, mn, ?_, ?_, hn⟩
  · intro sz
    refine ⟨_, _, [bd_w a3 q s3, mo_w a4 q s4, pg_w a5 q s5, pa_r s8 q 2 BB z7, ps_w q 2 BB z7].flatten, _, _, _, c2_X6_scroll (a1 := a1) (a2 := a2) (a3 := a3) (a4 := a4) (a5 := a5) (p8 := p8) (s8 := s8) (p9 := p9) (AA := AA) (post := fun r y_s1 y_s2 y_s6 => r = r6 ∧ y_s1 = s1n ∧ y_s2 = s2n ∧ y_s6 = s6n) (v6 _ ⟨rfl, rfl, rfl, rfl⟩), rfl, ?_, fun r u hu => ?_⟩
    · rw [e2]
      have hp := bk_perm (L := cb_l q a0 a1 a2 a3 a4 a5 p8 s8 p9 AA BB s1 s2 s3 s4 s5 s6 z7) (L2 := [fo_w (a0 0) (a1 0) (a2 0) (a3 0) (a4 0) (a5 0) p8 s8, tp_w a1 q s1, bd_w a2 q s2, pa_o p8 p9 s6, pa_r p9 q 10 AA s6.2, ps_w q 10 AA s6.2, bd_w a3 q s3, mo_w a4 q s4, pg_w a5 q s5, pa_r s8 q 2 BB z7, ps_w q 2 BB z7]) [0, 1, 2, 6, 7, 8, 3, 4, 5, 9, 10] (show List.Perm _ (List.range 11) by decide) rfl rfl
      refine hp.trans ?_
      simp only [List.flatten_cons, List.flatten_nil, List.append_nil, List.append_assoc]
      exact List.Perm.refl _
    · obtain ⟨hr, g_s1, g_s2, g_s6⟩ := hu
      refine ⟨_, ⟨hr, a0, a1, a2, a3, a4, a5, p8, s8, p9, u.1, BB, rfl, rfl⟩, ?_⟩
      rw [← g_s1, ← g_s2, ← g_s6]
      have hp := bk_perm (L := cb_l q a0 a1 a2 a3 a4 a5 p8 s8 p9 u.1 BB u.2.1 u.2.2.1 s3 s4 s5 u.2.2.2 z7) (L2 := [fo_w (a0 0) (a1 0) (a2 0) (a3 0) (a4 0) (a5 0) p8 s8, tp_w a1 q u.2.1, bd_w a2 q u.2.2.1, pa_o p8 p9 u.2.2.2, pa_r p9 q 10 u.1 u.2.2.2.2, ps_w q 10 u.1 u.2.2.2.2, bd_w a3 q s3, mo_w a4 q s4, pg_w a5 q s5, pa_r s8 q 2 BB z7, ps_w q 2 BB z7]) [0, 1, 2, 6, 7, 8, 3, 4, 5, 9, 10] (show List.Perm _ (List.range 11) by decide) rfl rfl
      refine List.Perm.symm (hp.trans ?_)
      simp only [List.flatten_cons, List.flatten_nil, List.append_nil, List.append_assoc]
      exact List.Perm.refl _
  · intro sz
    refine ⟨_, _, [], _, _, _, c2_X7_scroll (post := fun r u => r = r7 ∧ u = mn) (v7 _ ⟨rfl, rfl⟩), rfl, by rw [f2, List.append_nil], fun r u hu => ?_⟩
    exact ⟨_, ⟨hu.1, b, rfl, rfl⟩, by rw [List.append_nil, hu.2]⟩
set_option maxHeartbeats 4000000 in
theorem pl_tick {l : Launch} {D : va_G} {q : Nat → ClassId} {h h2 : Nat} {w w2 : va_W} {s1 : Tp} {s2 s3 : Bd} {s4 : Mo} {s5 : Pg} {s6 : Pa} {z7 : Nat → Option Bd} {m : Md} {N : Int} {x1 : Int32} (hW : c_W q h s1 s2 s3 s4 s5 s6 z7 w) (hV : m_W q h2 m w2) (hJ : JJ N s1 s2 s3 s4 s5 s6 z7 m) : ∃ (r6 r7 : Int32) (M : Int) (s2n : Bd) (s4n : Mo) (s6n : Pa) (mn : Md), un_i l D q 5 yX6_tick cX6_tick 2 (some .int) ({ frames := 4, cells := 14, slots := 6906, locals := 146 } : Room) h [.int x1] 14 6906 w (fun r w3 => r = r6 ∧ c_W q h s1 s2n s3 s4n s5 s6n z7 w3) ∧ un_i l D q 6 yX7_tick cX7_tick 4 (some .int) ({ frames := 5, cells := 0, slots := 0, locals := 110 } : Room) h2 [.int x1] 0 0 w2 (fun r w3 => r = r7 ∧ m_W q h2 mn w3) ∧ JJ M s1 s2n s3 s4n s5 s6n z7 mn := by
  obtain ⟨a0, a1, a2, a3, a4, a5, p8, s8, p9, AA, BB, e1, e2⟩ := hW
  obtain ⟨b, f1, f2⟩ := hV
  subst e1
  subst f1
  obtain ⟨r6, r7, M, s2n, s4n, s6n, mn, v6, v7, hn⟩ := pm_tick (x1 := x1) hJ
  refine ⟨r6, r7, M, s2n, s4n, s6n, mn, ?_, ?_, hn⟩
  · intro sz
    refine ⟨_, _, [tp_w a1 q s1, bd_w a3 q s3, pg_w a5 q s5, pa_r s8 q 2 BB z7, ps_w q 2 BB z7].flatten, _, _, _, c2_X6_tick (a1 := a1) (a2 := a2) (a3 := a3) (a4 := a4) (a5 := a5) (p8 := p8) (s8 := s8) (p9 := p9) (AA := AA) (post := fun r y_s2 y_s4 y_s6 => r = r6 ∧ y_s2 = s2n ∧ y_s4 = s4n ∧ y_s6 = s6n) (v6 _ ⟨rfl, rfl, rfl, rfl⟩), rfl, ?_, fun r u hu => ?_⟩
    · rw [e2]
      have hp := bk_perm (L := cb_l q a0 a1 a2 a3 a4 a5 p8 s8 p9 AA BB s1 s2 s3 s4 s5 s6 z7) (L2 := [fo_w (a0 0) (a1 0) (a2 0) (a3 0) (a4 0) (a5 0) p8 s8, bd_w a2 q s2, mo_w a4 q s4, pa_o p8 p9 s6, pa_r p9 q 10 AA s6.2, ps_w q 10 AA s6.2, tp_w a1 q s1, bd_w a3 q s3, pg_w a5 q s5, pa_r s8 q 2 BB z7, ps_w q 2 BB z7]) [0, 2, 4, 6, 7, 8, 1, 3, 5, 9, 10] (show List.Perm _ (List.range 11) by decide) rfl rfl
      refine hp.trans ?_
      simp only [List.flatten_cons, List.flatten_nil, List.append_nil, List.append_assoc]
      exact List.Perm.refl _
    · obtain ⟨hr, g_s2, g_s4, g_s6⟩ := hu
      refine ⟨_, ⟨hr, a0, a1, a2, a3, a4, a5, p8, s8, p9, u.1, BB, rfl, rfl⟩, ?_⟩
      rw [← g_s2, ← g_s4, ← g_s6]
      have hp := bk_perm (L := cb_l q a0 a1 a2 a3 a4 a5 p8 s8 p9 u.1 BB s1 u.2.1 s3 u.2.2.1 s5 u.2.2.2 z7) (L2 := [fo_w (a0 0) (a1 0) (a2 0) (a3 0) (a4 0) (a5 0) p8 s8, bd_w a2 q u.2.1, mo_w a4 q u.2.2.1, pa_o p8 p9 u.2.2.2, pa_r p9 q 10 u.1 u.2.2.2.2, ps_w q 10 u.1 u.2.2.2.2, tp_w a1 q s1, bd_w a3 q s3, pg_w a5 q s5, pa_r s8 q 2 BB z7, ps_w q 2 BB z7]) [0, 2, 4, 6, 7, 8, 1, 3, 5, 9, 10] (show List.Perm _ (List.range 11) by decide) rfl rfl
      refine List.Perm.symm (hp.trans ?_)
      simp only [List.flatten_cons, List.flatten_nil, List.append_nil, List.append_assoc]
      exact List.Perm.refl _
  · intro sz
    refine ⟨_, _, [], _, _, _, c2_X7_tick (post := fun r u => r = r7 ∧ u = mn) (v7 _ ⟨rfl, rfl⟩), rfl, by rw [f2, List.append_nil], fun r u hu => ?_⟩
    exact ⟨_, ⟨hu.1, b, rfl, rfl⟩, by rw [List.append_nil, hu.2]⟩
set_option maxHeartbeats 4000000 in
theorem pl_settle {l : Launch} {D : va_G} {q : Nat → ClassId} {h h2 : Nat} {w w2 : va_W} {s1 : Tp} {s2 s3 : Bd} {s4 : Mo} {s5 : Pg} {s6 : Pa} {z7 : Nat → Option Bd} {m : Md} {N : Int}  (hW : c_W q h s1 s2 s3 s4 s5 s6 z7 w) (hV : m_W q h2 m w2) (hJ : JJ N s1 s2 s3 s4 s5 s6 z7 m) : ∃ (r6 r7 : Int32) (M : Int) (s2n : Bd) (s4n : Mo) (s6n : Pa) (mn : Md), un_i l D q 5 yX6_settle cX6_settle 1 (some .int) ({ frames := 4, cells := 14, slots := 6906, locals := 146 } : Room) h [] 14 6906 w (fun r w3 => r = r6 ∧ c_W q h s1 s2n s3 s4n s5 s6n z7 w3) ∧ un_i l D q 6 yX7_settle cX7_settle 1 (some .int) ({ frames := 6, cells := 0, slots := 0, locals := 131 } : Room) h2 [] 0 0 w2 (fun r w3 => r = r7 ∧ m_W q h2 mn w3) ∧ JJ M s1 s2n s3 s4n s5 s6n z7 mn := by
  obtain ⟨a0, a1, a2, a3, a4, a5, p8, s8, p9, AA, BB, e1, e2⟩ := hW
  obtain ⟨b, f1, f2⟩ := hV
  subst e1
  subst f1
  obtain ⟨r6, r7, M, s2n, s4n, s6n, mn, v6, v7, hn⟩ := pm_settle  hJ
  refine ⟨r6, r7, M, s2n, s4n, s6n, mn, ?_, ?_, hn⟩
  · intro sz
    refine ⟨_, _, [tp_w a1 q s1, bd_w a3 q s3, pg_w a5 q s5, pa_r s8 q 2 BB z7, ps_w q 2 BB z7].flatten, _, _, _, c2_X6_settle (a1 := a1) (a2 := a2) (a3 := a3) (a4 := a4) (a5 := a5) (p8 := p8) (s8 := s8) (p9 := p9) (AA := AA) (post := fun r y_s2 y_s4 y_s6 => r = r6 ∧ y_s2 = s2n ∧ y_s4 = s4n ∧ y_s6 = s6n) (v6 _ ⟨rfl, rfl, rfl, rfl⟩), rfl, ?_, fun r u hu => ?_⟩
    · rw [e2]
      have hp := bk_perm (L := cb_l q a0 a1 a2 a3 a4 a5 p8 s8 p9 AA BB s1 s2 s3 s4 s5 s6 z7) (L2 := [fo_w (a0 0) (a1 0) (a2 0) (a3 0) (a4 0) (a5 0) p8 s8, bd_w a2 q s2, mo_w a4 q s4, pa_o p8 p9 s6, pa_r p9 q 10 AA s6.2, ps_w q 10 AA s6.2, tp_w a1 q s1, bd_w a3 q s3, pg_w a5 q s5, pa_r s8 q 2 BB z7, ps_w q 2 BB z7]) [0, 2, 4, 6, 7, 8, 1, 3, 5, 9, 10] (show List.Perm _ (List.range 11) by decide) rfl rfl
      refine hp.trans ?_
      simp only [List.flatten_cons, List.flatten_nil, List.append_nil, List.append_assoc]
      exact List.Perm.refl _
    · obtain ⟨hr, g_s2, g_s4, g_s6⟩ := hu
      refine ⟨_, ⟨hr, a0, a1, a2, a3, a4, a5, p8, s8, p9, u.1, BB, rfl, rfl⟩, ?_⟩
      rw [← g_s2, ← g_s4, ← g_s6]
      have hp := bk_perm (L := cb_l q a0 a1 a2 a3 a4 a5 p8 s8 p9 u.1 BB s1 u.2.1 s3 u.2.2.1 s5 u.2.2.2 z7) (L2 := [fo_w (a0 0) (a1 0) (a2 0) (a3 0) (a4 0) (a5 0) p8 s8, bd_w a2 q u.2.1, mo_w a4 q u.2.2.1, pa_o p8 p9 u.2.2.2, pa_r p9 q 10 u.1 u.2.2.2.2, ps_w q 10 u.1 u.2.2.2.2, tp_w a1 q s1, bd_w a3 q s3, pg_w a5 q s5, pa_r s8 q 2 BB z7, ps_w q 2 BB z7]) [0, 2, 4, 6, 7, 8, 1, 3, 5, 9, 10] (show List.Perm _ (List.range 11) by decide) rfl rfl
      refine List.Perm.symm (hp.trans ?_)
      simp only [List.flatten_cons, List.flatten_nil, List.append_nil, List.append_assoc]
      exact List.Perm.refl _
  · intro sz
    refine ⟨_, _, [], _, _, _, c2_X7_settle (post := fun r u => r = r7 ∧ u = mn) (v7 _ ⟨rfl, rfl⟩), rfl, by rw [f2, List.append_nil], fun r u hu => ?_⟩
    exact ⟨_, ⟨hu.1, b, rfl, rfl⟩, by rw [List.append_nil, hu.2]⟩
set_option maxHeartbeats 4000000 in
theorem pl_lose {l : Launch} {D : va_G} {q : Nat → ClassId} {h h2 : Nat} {w w2 : va_W} {s1 : Tp} {s2 s3 : Bd} {s4 : Mo} {s5 : Pg} {s6 : Pa} {z7 : Nat → Option Bd} {m : Md} {N : Int} {x1 : Int32} {x2 : Int32} (hW : c_W q h s1 s2 s3 s4 s5 s6 z7 w) (hV : m_W q h2 m w2) (hJ : JJ N s1 s2 s3 s4 s5 s6 z7 m) : ∃ (r6 r7 : Int32) (M : Int) (s2n : Bd) (s6n : Pa) (mn : Md), un_i l D q 5 yX6_lose cX6_lose 4 (some .int) ({ frames := 4, cells := 14, slots := 6906, locals := 146 } : Room) h [.int x1, .int x2] 14 6906 w (fun r w3 => r = r6 ∧ c_W q h s1 s2n s3 s4 s5 s6n z7 w3) ∧ un_i l D q 6 yX7_lose cX7_lose 4 (some .int) ({ frames := 3, cells := 0, slots := 0, locals := 61 } : Room) h2 [.int x1, .int x2] 0 0 w2 (fun r w3 => r = r7 ∧ m_W q h2 mn w3) ∧ JJ M s1 s2n s3 s4 s5 s6n z7 mn := by
  obtain ⟨a0, a1, a2, a3, a4, a5, p8, s8, p9, AA, BB, e1, e2⟩ := hW
  obtain ⟨b, f1, f2⟩ := hV
  subst e1
  subst f1
  obtain ⟨r6, r7, M, s2n, s6n, mn, v6, v7, hn⟩ := pm_lose (x1 := x1) (x2 := x2) hJ
  refine ⟨r6, r7, M, s2n, s6n, mn, ?_, ?_, hn⟩
  · intro sz
    refine ⟨_, _, [tp_w a1 q s1, bd_w a3 q s3, mo_w a4 q s4, pg_w a5 q s5, pa_r s8 q 2 BB z7, ps_w q 2 BB z7].flatten, _, _, _, c2_X6_lose (a1 := a1) (a2 := a2) (a3 := a3) (a4 := a4) (a5 := a5) (p8 := p8) (s8 := s8) (p9 := p9) (AA := AA) (post := fun r y_s2 y_s6 => r = r6 ∧ y_s2 = s2n ∧ y_s6 = s6n) (v6 _ ⟨rfl, rfl, rfl⟩), rfl, ?_, fun r u hu => ?_⟩
    · rw [e2]
      have hp := bk_perm (L := cb_l q a0 a1 a2 a3 a4 a5 p8 s8 p9 AA BB s1 s2 s3 s4 s5 s6 z7) (L2 := [fo_w (a0 0) (a1 0) (a2 0) (a3 0) (a4 0) (a5 0) p8 s8, bd_w a2 q s2, pa_o p8 p9 s6, pa_r p9 q 10 AA s6.2, ps_w q 10 AA s6.2, tp_w a1 q s1, bd_w a3 q s3, mo_w a4 q s4, pg_w a5 q s5, pa_r s8 q 2 BB z7, ps_w q 2 BB z7]) [0, 2, 6, 7, 8, 1, 3, 4, 5, 9, 10] (show List.Perm _ (List.range 11) by decide) rfl rfl
      refine hp.trans ?_
      simp only [List.flatten_cons, List.flatten_nil, List.append_nil, List.append_assoc]
      exact List.Perm.refl _
    · obtain ⟨hr, g_s2, g_s6⟩ := hu
      refine ⟨_, ⟨hr, a0, a1, a2, a3, a4, a5, p8, s8, p9, u.1, BB, rfl, rfl⟩, ?_⟩
      rw [← g_s2, ← g_s6]
      have hp := bk_perm (L := cb_l q a0 a1 a2 a3 a4 a5 p8 s8 p9 u.1 BB s1 u.2.1 s3 s4 s5 u.2.2 z7) (L2 := [fo_w (a0 0) (a1 0) (a2 0) (a3 0) (a4 0) (a5 0) p8 s8, bd_w a2 q u.2.1, pa_o p8 p9 u.2.2, pa_r p9 q 10 u.1 u.2.2.2, ps_w q 10 u.1 u.2.2.2, tp_w a1 q s1, bd_w a3 q s3, mo_w a4 q s4, pg_w a5 q s5, pa_r s8 q 2 BB z7, ps_w q 2 BB z7]) [0, 2, 6, 7, 8, 1, 3, 4, 5, 9, 10] (show List.Perm _ (List.range 11) by decide) rfl rfl
      refine List.Perm.symm (hp.trans ?_)
      simp only [List.flatten_cons, List.flatten_nil, List.append_nil, List.append_assoc]
      exact List.Perm.refl _
  · intro sz
    refine ⟨_, _, [], _, _, _, c2_X7_lose (post := fun r u => r = r7 ∧ u = mn) (v7 _ ⟨rfl, rfl⟩), rfl, by rw [f2, List.append_nil], fun r u hu => ?_⟩
    exact ⟨_, ⟨hu.1, b, rfl, rfl⟩, by rw [List.append_nil, hu.2]⟩
set_option maxHeartbeats 4000000 in
theorem pl_wear {l : Launch} {D : va_G} {q : Nat → ClassId} {h h2 : Nat} {w w2 : va_W} {s1 : Tp} {s2 s3 : Bd} {s4 : Mo} {s5 : Pg} {s6 : Pa} {z7 : Nat → Option Bd} {m : Md} {N : Int} {x1 : Int32} {x2 : Int32} (hW : c_W q h s1 s2 s3 s4 s5 s6 z7 w) (hV : m_W q h2 m w2) (hJ : JJ N s1 s2 s3 s4 s5 s6 z7 m) : ∃ (r6 r7 : Int32) (M : Int) (s2n : Bd) (s6n : Pa) (mn : Md), un_i l D q 5 yX6_wear cX6_wear 3 (some .int) ({ frames := 4, cells := 14, slots := 6906, locals := 146 } : Room) h [.int x1, .int x2] 14 6906 w (fun r w3 => r = r6 ∧ c_W q h s1 s2n s3 s4 s5 s6n z7 w3) ∧ un_i l D q 6 yX7_wear cX7_wear 3 (some .int) ({ frames := 4, cells := 0, slots := 0, locals := 83 } : Room) h2 [.int x1, .int x2] 0 0 w2 (fun r w3 => r = r7 ∧ m_W q h2 mn w3) ∧ JJ M s1 s2n s3 s4 s5 s6n z7 mn := by
  obtain ⟨a0, a1, a2, a3, a4, a5, p8, s8, p9, AA, BB, e1, e2⟩ := hW
  obtain ⟨b, f1, f2⟩ := hV
  subst e1
  subst f1
  obtain ⟨r6, r7, M, s2n, s6n, mn, v6, v7, hn⟩ := pm_wear (x1 := x1) (x2 := x2) hJ
  refine ⟨r6, r7, M, s2n, s6n, mn, ?_, ?_, hn⟩
  · intro sz
    refine ⟨_, _, [tp_w a1 q s1, bd_w a3 q s3, mo_w a4 q s4, pg_w a5 q s5, pa_r s8 q 2 BB z7, ps_w q 2 BB z7].flatten, _, _, _, c2_X6_wear (a1 := a1) (a2 := a2) (a3 := a3) (a4 := a4) (a5 := a5) (p8 := p8) (s8 := s8) (p9 := p9) (AA := AA) (post := fun r y_s2 y_s6 => r = r6 ∧ y_s2 = s2n ∧ y_s6 = s6n) (v6 _ ⟨rfl, rfl, rfl⟩), rfl, ?_, fun r u hu => ?_⟩
    · rw [e2]
      have hp := bk_perm (L := cb_l q a0 a1 a2 a3 a4 a5 p8 s8 p9 AA BB s1 s2 s3 s4 s5 s6 z7) (L2 := [fo_w (a0 0) (a1 0) (a2 0) (a3 0) (a4 0) (a5 0) p8 s8, bd_w a2 q s2, pa_o p8 p9 s6, pa_r p9 q 10 AA s6.2, ps_w q 10 AA s6.2, tp_w a1 q s1, bd_w a3 q s3, mo_w a4 q s4, pg_w a5 q s5, pa_r s8 q 2 BB z7, ps_w q 2 BB z7]) [0, 2, 6, 7, 8, 1, 3, 4, 5, 9, 10] (show List.Perm _ (List.range 11) by decide) rfl rfl
      refine hp.trans ?_
      simp only [List.flatten_cons, List.flatten_nil, List.append_nil, List.append_assoc]
      exact List.Perm.refl _
    · obtain ⟨hr, g_s2, g_s6⟩ := hu
      refine ⟨_, ⟨hr, a0, a1, a2, a3, a4, a5, p8, s8, p9, u.1, BB, rfl, rfl⟩, ?_⟩
      rw [← g_s2, ← g_s6]
      have hp := bk_perm (L := cb_l q a0 a1 a2 a3 a4 a5 p8 s8 p9 u.1 BB s1 u.2.1 s3 s4 s5 u.2.2 z7) (L2 := [fo_w (a0 0) (a1 0) (a2 0) (a3 0) (a4 0) (a5 0) p8 s8, bd_w a2 q u.2.1, pa_o p8 p9 u.2.2, pa_r p9 q 10 u.1 u.2.2.2, ps_w q 10 u.1 u.2.2.2, tp_w a1 q s1, bd_w a3 q s3, mo_w a4 q s4, pg_w a5 q s5, pa_r s8 q 2 BB z7, ps_w q 2 BB z7]) [0, 2, 6, 7, 8, 1, 3, 4, 5, 9, 10] (show List.Perm _ (List.range 11) by decide) rfl rfl
      refine List.Perm.symm (hp.trans ?_)
      simp only [List.flatten_cons, List.flatten_nil, List.append_nil, List.append_assoc]
      exact List.Perm.refl _
  · intro sz
    refine ⟨_, _, [], _, _, _, c2_X7_wear (post := fun r u => r = r7 ∧ u = mn) (v7 _ ⟨rfl, rfl⟩), rfl, by rw [f2, List.append_nil], fun r u hu => ?_⟩
    exact ⟨_, ⟨hu.1, b, rfl, rfl⟩, by rw [List.append_nil, hu.2]⟩
set_option maxHeartbeats 4000000 in
theorem pl_mend {l : Launch} {D : va_G} {q : Nat → ClassId} {h h2 : Nat} {w w2 : va_W} {s1 : Tp} {s2 s3 : Bd} {s4 : Mo} {s5 : Pg} {s6 : Pa} {z7 : Nat → Option Bd} {m : Md} {N : Int} {x1 : Int32} {x2 : Int32} (hW : c_W q h s1 s2 s3 s4 s5 s6 z7 w) (hV : m_W q h2 m w2) (hJ : JJ N s1 s2 s3 s4 s5 s6 z7 m) : ∃ (r6 r7 : Int32) (M : Int) (s2n : Bd) (s6n : Pa) (mn : Md), un_i l D q 5 yX6_mend cX6_mend 3 (some .int) ({ frames := 4, cells := 14, slots := 6906, locals := 146 } : Room) h [.int x1, .int x2] 14 6906 w (fun r w3 => r = r6 ∧ c_W q h s1 s2n s3 s4 s5 s6n z7 w3) ∧ un_i l D q 6 yX7_mend cX7_mend 3 (some .int) ({ frames := 4, cells := 0, slots := 0, locals := 83 } : Room) h2 [.int x1, .int x2] 0 0 w2 (fun r w3 => r = r7 ∧ m_W q h2 mn w3) ∧ JJ M s1 s2n s3 s4 s5 s6n z7 mn := by
  obtain ⟨a0, a1, a2, a3, a4, a5, p8, s8, p9, AA, BB, e1, e2⟩ := hW
  obtain ⟨b, f1, f2⟩ := hV
  subst e1
  subst f1
  obtain ⟨r6, r7, M, s2n, s6n, mn, v6, v7, hn⟩ := pm_mend (x1 := x1) (x2 := x2) hJ
  refine ⟨r6, r7, M, s2n, s6n, mn, ?_, ?_, hn⟩
  · intro sz
    refine ⟨_, _, [tp_w a1 q s1, bd_w a3 q s3, mo_w a4 q s4, pg_w a5 q s5, pa_r s8 q 2 BB z7, ps_w q 2 BB z7].flatten, _, _, _, c2_X6_mend (a1 := a1) (a2 := a2) (a3 := a3) (a4 := a4) (a5 := a5) (p8 := p8) (s8 := s8) (p9 := p9) (AA := AA) (post := fun r y_s2 y_s6 => r = r6 ∧ y_s2 = s2n ∧ y_s6 = s6n) (v6 _ ⟨rfl, rfl, rfl⟩), rfl, ?_, fun r u hu => ?_⟩
    · rw [e2]
      have hp := bk_perm (L := cb_l q a0 a1 a2 a3 a4 a5 p8 s8 p9 AA BB s1 s2 s3 s4 s5 s6 z7) (L2 := [fo_w (a0 0) (a1 0) (a2 0) (a3 0) (a4 0) (a5 0) p8 s8, bd_w a2 q s2, pa_o p8 p9 s6, pa_r p9 q 10 AA s6.2, ps_w q 10 AA s6.2, tp_w a1 q s1, bd_w a3 q s3, mo_w a4 q s4, pg_w a5 q s5, pa_r s8 q 2 BB z7, ps_w q 2 BB z7]) [0, 2, 6, 7, 8, 1, 3, 4, 5, 9, 10] (show List.Perm _ (List.range 11) by decide) rfl rfl
      refine hp.trans ?_
      simp only [List.flatten_cons, List.flatten_nil, List.append_nil, List.append_assoc]
      exact List.Perm.refl _
    · obtain ⟨hr, g_s2, g_s6⟩ := hu
      refine ⟨_, ⟨hr, a0, a1, a2, a3, a4, a5, p8, s8, p9, u.1, BB, rfl, rfl⟩, ?_⟩
      rw [← g_s2, ← g_s6]
      have hp := bk_perm (L := cb_l q a0 a1 a2 a3 a4 a5 p8 s8 p9 u.1 BB s1 u.2.1 s3 s4 s5 u.2.2 z7) (L2 := [fo_w (a0 0) (a1 0) (a2 0) (a3 0) (a4 0) (a5 0) p8 s8, bd_w a2 q u.2.1, pa_o p8 p9 u.2.2, pa_r p9 q 10 u.1 u.2.2.2, ps_w q 10 u.1 u.2.2.2, tp_w a1 q s1, bd_w a3 q s3, mo_w a4 q s4, pg_w a5 q s5, pa_r s8 q 2 BB z7, ps_w q 2 BB z7]) [0, 2, 6, 7, 8, 1, 3, 4, 5, 9, 10] (show List.Perm _ (List.range 11) by decide) rfl rfl
      refine List.Perm.symm (hp.trans ?_)
      simp only [List.flatten_cons, List.flatten_nil, List.append_nil, List.append_assoc]
      exact List.Perm.refl _
  · intro sz
    refine ⟨_, _, [], _, _, _, c2_X7_mend (post := fun r u => r = r7 ∧ u = mn) (v7 _ ⟨rfl, rfl⟩), rfl, by rw [f2, List.append_nil], fun r u hu => ?_⟩
    exact ⟨_, ⟨hu.1, b, rfl, rfl⟩, by rw [List.append_nil, hu.2]⟩
set_option maxHeartbeats 4000000 in
theorem pl_limit {l : Launch} {D : va_G} {q : Nat → ClassId} {h h2 : Nat} {w w2 : va_W} {s1 : Tp} {s2 s3 : Bd} {s4 : Mo} {s5 : Pg} {s6 : Pa} {z7 : Nat → Option Bd} {m : Md} {N : Int} {x1 : Int32} (hW : c_W q h s1 s2 s3 s4 s5 s6 z7 w) (hV : m_W q h2 m w2) (hJ : JJ N s1 s2 s3 s4 s5 s6 z7 m) : ∃ (r6 r7 : Int32) (M : Int) (s2n : Bd) (s6n : Pa) (mn : Md), un_i l D q 5 yX6_limit cX6_limit 3 (some .int) ({ frames := 4, cells := 14, slots := 6906, locals := 146 } : Room) h [.int x1] 14 6906 w (fun r w3 => r = r6 ∧ c_W q h s1 s2n s3 s4 s5 s6n z7 w3) ∧ un_i l D q 6 yX7_limit cX7_limit 3 (some .int) ({ frames := 2, cells := 0, slots := 0, locals := 40 } : Room) h2 [.int x1] 0 0 w2 (fun r w3 => r = r7 ∧ m_W q h2 mn w3) ∧ JJ M s1 s2n s3 s4 s5 s6n z7 mn := by
  obtain ⟨a0, a1, a2, a3, a4, a5, p8, s8, p9, AA, BB, e1, e2⟩ := hW
  obtain ⟨b, f1, f2⟩ := hV
  subst e1
  subst f1
  obtain ⟨r6, r7, M, s2n, s6n, mn, v6, v7, hn⟩ := pm_limit (x1 := x1) hJ
  refine ⟨r6, r7, M, s2n, s6n, mn, ?_, ?_, hn⟩
  · intro sz
    refine ⟨_, _, [tp_w a1 q s1, bd_w a3 q s3, mo_w a4 q s4, pg_w a5 q s5, pa_r s8 q 2 BB z7, ps_w q 2 BB z7].flatten, _, _, _, c2_X6_limit (a1 := a1) (a2 := a2) (a3 := a3) (a4 := a4) (a5 := a5) (p8 := p8) (s8 := s8) (p9 := p9) (AA := AA) (post := fun r y_s2 y_s6 => r = r6 ∧ y_s2 = s2n ∧ y_s6 = s6n) (v6 _ ⟨rfl, rfl, rfl⟩), rfl, ?_, fun r u hu => ?_⟩
    · rw [e2]
      have hp := bk_perm (L := cb_l q a0 a1 a2 a3 a4 a5 p8 s8 p9 AA BB s1 s2 s3 s4 s5 s6 z7) (L2 := [fo_w (a0 0) (a1 0) (a2 0) (a3 0) (a4 0) (a5 0) p8 s8, bd_w a2 q s2, pa_o p8 p9 s6, pa_r p9 q 10 AA s6.2, ps_w q 10 AA s6.2, tp_w a1 q s1, bd_w a3 q s3, mo_w a4 q s4, pg_w a5 q s5, pa_r s8 q 2 BB z7, ps_w q 2 BB z7]) [0, 2, 6, 7, 8, 1, 3, 4, 5, 9, 10] (show List.Perm _ (List.range 11) by decide) rfl rfl
      refine hp.trans ?_
      simp only [List.flatten_cons, List.flatten_nil, List.append_nil, List.append_assoc]
      exact List.Perm.refl _
    · obtain ⟨hr, g_s2, g_s6⟩ := hu
      refine ⟨_, ⟨hr, a0, a1, a2, a3, a4, a5, p8, s8, p9, u.1, BB, rfl, rfl⟩, ?_⟩
      rw [← g_s2, ← g_s6]
      have hp := bk_perm (L := cb_l q a0 a1 a2 a3 a4 a5 p8 s8 p9 u.1 BB s1 u.2.1 s3 s4 s5 u.2.2 z7) (L2 := [fo_w (a0 0) (a1 0) (a2 0) (a3 0) (a4 0) (a5 0) p8 s8, bd_w a2 q u.2.1, pa_o p8 p9 u.2.2, pa_r p9 q 10 u.1 u.2.2.2, ps_w q 10 u.1 u.2.2.2, tp_w a1 q s1, bd_w a3 q s3, mo_w a4 q s4, pg_w a5 q s5, pa_r s8 q 2 BB z7, ps_w q 2 BB z7]) [0, 2, 6, 7, 8, 1, 3, 4, 5, 9, 10] (show List.Perm _ (List.range 11) by decide) rfl rfl
      refine List.Perm.symm (hp.trans ?_)
      simp only [List.flatten_cons, List.flatten_nil, List.append_nil, List.append_assoc]
      exact List.Perm.refl _
  · intro sz
    refine ⟨_, _, [], _, _, _, c2_X7_limit (post := fun r u => r = r7 ∧ u = mn) (v7 _ ⟨rfl, rfl⟩), rfl, by rw [f2, List.append_nil], fun r u hu => ?_⟩
    exact ⟨_, ⟨hu.1, b, rfl, rfl⟩, by rw [List.append_nil, hu.2]⟩
set_option maxHeartbeats 4000000 in
theorem pl_exchange {l : Launch} {D : va_G} {q : Nat → ClassId} {h h2 : Nat} {w w2 : va_W} {s1 : Tp} {s2 s3 : Bd} {s4 : Mo} {s5 : Pg} {s6 : Pa} {z7 : Nat → Option Bd} {m : Md} {N : Int} {x1 : Int32} {x2 : Int32} {x3 : Int32} (hW : c_W q h s1 s2 s3 s4 s5 s6 z7 w) (hV : m_W q h2 m w2) (hJ : JJ N s1 s2 s3 s4 s5 s6 z7 m) : ∃ (r6 r7 : Int32) (M : Int) (s2n : Bd) (s6n : Pa) (mn : Md), un_i l D q 5 yX6_exchange cX6_exchange 4 (some .int) ({ frames := 4, cells := 15, slots := 13306, locals := 146 } : Room) h [.int x1, .int x2, .int x3] 15 13306 w (fun r w3 => r = r6 ∧ c_W q h s1 s2n s3 s4 s5 s6n z7 w3) ∧ un_i l D q 6 yX7_exchange cX7_exchange 8 (some .int) ({ frames := 2, cells := 0, slots := 0, locals := 46 } : Room) h2 [.int x1, .int x2, .int x3] 0 0 w2 (fun r w3 => r = r7 ∧ m_W q h2 mn w3) ∧ JJ M s1 s2n s3 s4 s5 s6n z7 mn := by
  obtain ⟨a0, a1, a2, a3, a4, a5, p8, s8, p9, AA, BB, e1, e2⟩ := hW
  obtain ⟨b, f1, f2⟩ := hV
  subst e1
  subst f1
  obtain ⟨r6, r7, M, s2n, s6n, mn, v6, v7, hn⟩ := pm_exchange (x1 := x1) (x2 := x2) (x3 := x3) hJ
  refine ⟨r6, r7, M, s2n, s6n, mn, ?_, ?_, hn⟩
  · intro sz
    refine ⟨_, _, [tp_w a1 q s1, bd_w a3 q s3, mo_w a4 q s4, pg_w a5 q s5, pa_r s8 q 2 BB z7, ps_w q 2 BB z7].flatten, _, _, _, c2_X6_exchange (a1 := a1) (a2 := a2) (a3 := a3) (a4 := a4) (a5 := a5) (p8 := p8) (s8 := s8) (p9 := p9) (AA := AA) (post := fun r y_s2 y_s6 => r = r6 ∧ y_s2 = s2n ∧ y_s6 = s6n) (v6 _ ⟨rfl, rfl, rfl⟩), rfl, ?_, fun r u hu => ?_⟩
    · rw [e2]
      have hp := bk_perm (L := cb_l q a0 a1 a2 a3 a4 a5 p8 s8 p9 AA BB s1 s2 s3 s4 s5 s6 z7) (L2 := [fo_w (a0 0) (a1 0) (a2 0) (a3 0) (a4 0) (a5 0) p8 s8, bd_w a2 q s2, pa_o p8 p9 s6, pa_r p9 q 10 AA s6.2, ps_w q 10 AA s6.2, tp_w a1 q s1, bd_w a3 q s3, mo_w a4 q s4, pg_w a5 q s5, pa_r s8 q 2 BB z7, ps_w q 2 BB z7]) [0, 2, 6, 7, 8, 1, 3, 4, 5, 9, 10] (show List.Perm _ (List.range 11) by decide) rfl rfl
      refine hp.trans ?_
      simp only [List.flatten_cons, List.flatten_nil, List.append_nil, List.append_assoc]
      exact List.Perm.refl _
    · obtain ⟨hr, g_s2, g_s6⟩ := hu
      refine ⟨_, ⟨hr, a0, a1, (va_up a2 12 u.2.1), a3, a4, a5, p8, s8, p9, u.1, BB, rfl, rfl⟩, ?_⟩
      rw [← g_s2, ← g_s6]
      have hp := bk_perm (L := cb_l q a0 a1 (va_up a2 12 u.2.1) a3 a4 a5 p8 s8 p9 u.1 BB s1 u.2.2.1 s3 s4 s5 u.2.2.2 z7) (L2 := [fo_w (a0 0) (a1 0) (a2 0) (a3 0) (a4 0) (a5 0) p8 s8, bd_w (va_up a2 12 u.2.1) q u.2.2.1, pa_o p8 p9 u.2.2.2, pa_r p9 q 10 u.1 u.2.2.2.2, ps_w q 10 u.1 u.2.2.2.2, tp_w a1 q s1, bd_w a3 q s3, mo_w a4 q s4, pg_w a5 q s5, pa_r s8 q 2 BB z7, ps_w q 2 BB z7]) [0, 2, 6, 7, 8, 1, 3, 4, 5, 9, 10] (show List.Perm _ (List.range 11) by decide) rfl rfl
      refine List.Perm.symm (hp.trans ?_)
      simp only [List.flatten_cons, List.flatten_nil, List.append_nil, List.append_assoc]
      exact List.Perm.refl _
  · intro sz
    refine ⟨_, _, [], _, _, _, c2_X7_exchange (post := fun r u => r = r7 ∧ u = mn) (v7 _ ⟨rfl, rfl⟩), rfl, by rw [f2, List.append_nil], fun r u hu => ?_⟩
    exact ⟨_, ⟨hu.1, b, rfl, rfl⟩, by rw [List.append_nil, hu.2]⟩
set_option maxHeartbeats 4000000 in
theorem pl_run {l : Launch} {D : va_G} {q : Nat → ClassId} {h h2 : Nat} {w w2 : va_W} {s1 : Tp} {s2 s3 : Bd} {s4 : Mo} {s5 : Pg} {s6 : Pa} {z7 : Nat → Option Bd} {m : Md} {N : Int}  (hW : c_W q h s1 s2 s3 s4 s5 s6 z7 w) (hV : m_W q h2 m w2) (hJ : JJ N s1 s2 s3 s4 s5 s6 z7 m) : ∃ (r6 r7 : Int32) (M : Int) (s1n : Tp) (s2n : Bd) (s4n : Mo) (s5n : Pg) (s6n : Pa) (mn : Md), un_i l D q 5 yX6_run cX6_run 2 (some .int) ({ frames := 9, cells := 14, slots := 6906, locals := 192 } : Room) h [] 14 6906 w (fun r w3 => r = r6 ∧ c_W q h s1n s2n s3 s4n s5n s6n z7 w3) ∧ un_i l D q 6 yX7_run cX7_run 2 (some .int) ({ frames := 19, cells := 0, slots := 0, locals := 417 } : Room) h2 [] 0 0 w2 (fun r w3 => r = r7 ∧ m_W q h2 mn w3) ∧ JJ M s1n s2n s3 s4n s5n s6n z7 mn := by
  obtain ⟨a0, a1, a2, a3, a4, a5, p8, s8, p9, AA, BB, e1, e2⟩ := hW
  obtain ⟨b, f1, f2⟩ := hV
  subst e1
  subst f1
  obtain ⟨r6, r7, M, s1n, s2n, s4n, s5n, s6n, mn, v6, v7, hn⟩ := pm_run  hJ
  refine ⟨r6, r7, M, s1n, s2n, s4n, s5n, s6n, mn, ?_, ?_, hn⟩
  · intro sz
    refine ⟨_, _, [bd_w a3 q s3, pa_r s8 q 2 BB z7, ps_w q 2 BB z7].flatten, _, _, _, c2_X6_run (a1 := a1) (a2 := a2) (a3 := a3) (a4 := a4) (a5 := a5) (p8 := p8) (s8 := s8) (p9 := p9) (AA := AA) (post := fun r y_s1 y_s2 y_s4 y_s5 y_s6 => r = r6 ∧ y_s1 = s1n ∧ y_s2 = s2n ∧ y_s4 = s4n ∧ y_s5 = s5n ∧ y_s6 = s6n) (v6 _ ⟨rfl, rfl, rfl, rfl, rfl, rfl⟩), rfl, ?_, fun r u hu => ?_⟩
    · rw [e2]
      have hp := bk_perm (L := cb_l q a0 a1 a2 a3 a4 a5 p8 s8 p9 AA BB s1 s2 s3 s4 s5 s6 z7) (L2 := [fo_w (a0 0) (a1 0) (a2 0) (a3 0) (a4 0) (a5 0) p8 s8, tp_w a1 q s1, bd_w a2 q s2, mo_w a4 q s4, pg_w a5 q s5, pa_o p8 p9 s6, pa_r p9 q 10 AA s6.2, ps_w q 10 AA s6.2, bd_w a3 q s3, pa_r s8 q 2 BB z7, ps_w q 2 BB z7]) [0, 1, 2, 4, 5, 6, 7, 8, 3, 9, 10] (show List.Perm _ (List.range 11) by decide) rfl rfl
      refine hp.trans ?_
      simp only [List.flatten_cons, List.flatten_nil, List.append_nil, List.append_assoc]
      exact List.Perm.refl _
    · obtain ⟨hr, g_s1, g_s2, g_s4, g_s5, g_s6⟩ := hu
      refine ⟨_, ⟨hr, a0, a1, a2, a3, a4, a5, p8, s8, p9, u.1, BB, rfl, rfl⟩, ?_⟩
      rw [← g_s1, ← g_s2, ← g_s4, ← g_s5, ← g_s6]
      have hp := bk_perm (L := cb_l q a0 a1 a2 a3 a4 a5 p8 s8 p9 u.1 BB u.2.1 u.2.2.1 s3 u.2.2.2.1 u.2.2.2.2.1 u.2.2.2.2.2 z7) (L2 := [fo_w (a0 0) (a1 0) (a2 0) (a3 0) (a4 0) (a5 0) p8 s8, tp_w a1 q u.2.1, bd_w a2 q u.2.2.1, mo_w a4 q u.2.2.2.1, pg_w a5 q u.2.2.2.2.1, pa_o p8 p9 u.2.2.2.2.2, pa_r p9 q 10 u.1 u.2.2.2.2.2.2, ps_w q 10 u.1 u.2.2.2.2.2.2, bd_w a3 q s3, pa_r s8 q 2 BB z7, ps_w q 2 BB z7]) [0, 1, 2, 4, 5, 6, 7, 8, 3, 9, 10] (show List.Perm _ (List.range 11) by decide) rfl rfl
      refine List.Perm.symm (hp.trans ?_)
      simp only [List.flatten_cons, List.flatten_nil, List.append_nil, List.append_assoc]
      exact List.Perm.refl _
  · intro sz
    refine ⟨_, _, [], _, _, _, c2_X7_run (post := fun r u => r = r7 ∧ u = mn) (v7 _ ⟨rfl, rfl⟩), rfl, by rw [f2, List.append_nil], fun r u hu => ?_⟩
    exact ⟨_, ⟨hu.1, b, rfl, rfl⟩, by rw [List.append_nil, hu.2]⟩
set_option maxHeartbeats 4000000 in
theorem pl_undo {l : Launch} {D : va_G} {q : Nat → ClassId} {h h2 : Nat} {w w2 : va_W} {s1 : Tp} {s2 s3 : Bd} {s4 : Mo} {s5 : Pg} {s6 : Pa} {z7 : Nat → Option Bd} {m : Md} {N : Int}  (hW : c_W q h s1 s2 s3 s4 s5 s6 z7 w) (hV : m_W q h2 m w2) (hJ : JJ N s1 s2 s3 s4 s5 s6 z7 m) : ∃ (r6 r7 : Int32) (M : Int) (s2n : Bd) (s6n : Pa) (mn : Md), un_i l D q 5 yX6_undo cX6_undo 1 (some .int) ({ frames := 4, cells := 1, slots := 6400, locals := 146 } : Room) h [] 1 6400 w (fun r w3 => r = r6 ∧ c_W q h s1 s2n s3 s4 s5 s6n z7 w3) ∧ un_i l D q 6 yX7_undo cX7_undo 2 (some .int) ({ frames := 0, cells := 0, slots := 0, locals := 0 } : Room) h2 [] 0 0 w2 (fun r w3 => r = r7 ∧ m_W q h2 mn w3) ∧ JJ M s1 s2n s3 s4 s5 s6n z7 mn := by
  obtain ⟨a0, a1, a2, a3, a4, a5, p8, s8, p9, AA, BB, e1, e2⟩ := hW
  obtain ⟨b, f1, f2⟩ := hV
  subst e1
  subst f1
  obtain ⟨r6, r7, M, s2n, s6n, mn, v6, v7, hn⟩ := pm_undo  hJ
  refine ⟨r6, r7, M, s2n, s6n, mn, ?_, ?_, hn⟩
  · intro sz
    refine ⟨_, _, [tp_w a1 q s1, bd_w a3 q s3, mo_w a4 q s4, pg_w a5 q s5, pa_r s8 q 2 BB z7, ps_w q 2 BB z7].flatten, _, _, _, c2_X6_undo (a1 := a1) (a2 := a2) (a3 := a3) (a4 := a4) (a5 := a5) (p8 := p8) (s8 := s8) (p9 := p9) (AA := AA) (post := fun r y_s2 y_s6 => r = r6 ∧ y_s2 = s2n ∧ y_s6 = s6n) (v6 _ ⟨rfl, rfl, rfl⟩), rfl, ?_, fun r u hu => ?_⟩
    · rw [e2]
      have hp := bk_perm (L := cb_l q a0 a1 a2 a3 a4 a5 p8 s8 p9 AA BB s1 s2 s3 s4 s5 s6 z7) (L2 := [fo_w (a0 0) (a1 0) (a2 0) (a3 0) (a4 0) (a5 0) p8 s8, bd_w a2 q s2, pa_o p8 p9 s6, pa_r p9 q 10 AA s6.2, ps_w q 10 AA s6.2, tp_w a1 q s1, bd_w a3 q s3, mo_w a4 q s4, pg_w a5 q s5, pa_r s8 q 2 BB z7, ps_w q 2 BB z7]) [0, 2, 6, 7, 8, 1, 3, 4, 5, 9, 10] (show List.Perm _ (List.range 11) by decide) rfl rfl
      refine hp.trans ?_
      simp only [List.flatten_cons, List.flatten_nil, List.append_nil, List.append_assoc]
      exact List.Perm.refl _
    · obtain ⟨hr, g_s2, g_s6⟩ := hu
      refine ⟨_, ⟨hr, a0, a1, (va_up a2 12 u.2.1), a3, a4, a5, p8, s8, p9, u.1, BB, rfl, rfl⟩, ?_⟩
      rw [← g_s2, ← g_s6]
      have hp := bk_perm (L := cb_l q a0 a1 (va_up a2 12 u.2.1) a3 a4 a5 p8 s8 p9 u.1 BB s1 u.2.2.1 s3 s4 s5 u.2.2.2 z7) (L2 := [fo_w (a0 0) (a1 0) (a2 0) (a3 0) (a4 0) (a5 0) p8 s8, bd_w (va_up a2 12 u.2.1) q u.2.2.1, pa_o p8 p9 u.2.2.2, pa_r p9 q 10 u.1 u.2.2.2.2, ps_w q 10 u.1 u.2.2.2.2, tp_w a1 q s1, bd_w a3 q s3, mo_w a4 q s4, pg_w a5 q s5, pa_r s8 q 2 BB z7, ps_w q 2 BB z7]) [0, 2, 6, 7, 8, 1, 3, 4, 5, 9, 10] (show List.Perm _ (List.range 11) by decide) rfl rfl
      refine List.Perm.symm (hp.trans ?_)
      simp only [List.flatten_cons, List.flatten_nil, List.append_nil, List.append_assoc]
      exact List.Perm.refl _
  · intro sz
    refine ⟨_, _, [], _, _, _, c2_X7_undo (post := fun r u => r = r7 ∧ u = mn) (v7 _ ⟨rfl, rfl⟩), rfl, by rw [f2, List.append_nil], fun r u hu => ?_⟩
    exact ⟨_, ⟨hu.1, b, rfl, rfl⟩, by rw [List.append_nil, hu.2]⟩
set_option maxHeartbeats 4000000 in
theorem pl_keep {l : Launch} {D : va_G} {q : Nat → ClassId} {h h2 : Nat} {w w2 : va_W} {s1 : Tp} {s2 s3 : Bd} {s4 : Mo} {s5 : Pg} {s6 : Pa} {z7 : Nat → Option Bd} {m : Md} {N : Int} {x1 : Int32} (hW : c_W q h s1 s2 s3 s4 s5 s6 z7 w) (hV : m_W q h2 m w2) (hJ : JJ N s1 s2 s3 s4 s5 s6 z7 m) : ∃ (r6 r7 : Int32) (M : Int) (z7n : Nat → Option Bd) (mn : Md), un_i l D q 5 yX6_keep cX6_keep 3 (some .int) ({ frames := 3, cells := 14, slots := 6906, locals := 124 } : Room) h [.int x1] 14 6906 w (fun r w3 => r = r6 ∧ c_W q h s1 s2 s3 s4 s5 s6 z7n w3) ∧ un_i l D q 6 yX7_keep cX7_keep 3 (some .int) ({ frames := 2, cells := 0, slots := 0, locals := 40 } : Room) h2 [.int x1] 0 0 w2 (fun r w3 => r = r7 ∧ m_W q h2 mn w3) ∧ JJ M s1 s2 s3 s4 s5 s6 z7n mn := by
  obtain ⟨a0, a1, a2, a3, a4, a5, p8, s8, p9, AA, BB, e1, e2⟩ := hW
  obtain ⟨b, f1, f2⟩ := hV
  subst e1
  subst f1
  obtain ⟨r6, r7, M, z7n, mn, v6, v7, hn⟩ := pm_keep (x1 := x1) hJ
  refine ⟨r6, r7, M, z7n, mn, ?_, ?_, hn⟩
  · intro sz
    refine ⟨_, _, [tp_w a1 q s1, bd_w a3 q s3, mo_w a4 q s4, pg_w a5 q s5, pa_o p8 p9 s6, pa_r p9 q 10 AA s6.2, ps_w q 10 AA s6.2].flatten, _, _, _, c2_X6_keep (a1 := a1) (a2 := a2) (a3 := a3) (a4 := a4) (a5 := a5) (p8 := p8) (s8 := s8) (p9 := p9) (z7 := z7) (AA := BB) (post := fun r y_z7 => r = r6 ∧ y_z7 = z7n) (v6 _ ⟨rfl, rfl⟩), rfl, ?_, fun r u hu => ?_⟩
    · rw [e2]
      have hp := bk_perm (L := cb_l q a0 a1 a2 a3 a4 a5 p8 s8 p9 AA BB s1 s2 s3 s4 s5 s6 z7) (L2 := [fo_w (a0 0) (a1 0) (a2 0) (a3 0) (a4 0) (a5 0) p8 s8, bd_w a2 q s2, pa_r s8 q 2 BB z7, ps_w q 2 BB z7, tp_w a1 q s1, bd_w a3 q s3, mo_w a4 q s4, pg_w a5 q s5, pa_o p8 p9 s6, pa_r p9 q 10 AA s6.2, ps_w q 10 AA s6.2]) [0, 2, 9, 10, 1, 3, 4, 5, 6, 7, 8] (show List.Perm _ (List.range 11) by decide) rfl rfl
      refine hp.trans ?_
      simp only [List.flatten_cons, List.flatten_nil, List.append_nil, List.append_assoc]
      exact List.Perm.refl _
    · obtain ⟨hr, g_z7⟩ := hu
      refine ⟨_, ⟨hr, a0, a1, a2, a3, a4, a5, p8, s8, p9, AA, u.1, rfl, rfl⟩, ?_⟩
      rw [← g_z7]
      have hp := bk_perm (L := cb_l q a0 a1 a2 a3 a4 a5 p8 s8 p9 AA u.1 s1 s2 s3 s4 s5 s6 u.2) (L2 := [fo_w (a0 0) (a1 0) (a2 0) (a3 0) (a4 0) (a5 0) p8 s8, bd_w a2 q s2, pa_r s8 q 2 u.1 u.2, ps_w q 2 u.1 u.2, tp_w a1 q s1, bd_w a3 q s3, mo_w a4 q s4, pg_w a5 q s5, pa_o p8 p9 s6, pa_r p9 q 10 AA s6.2, ps_w q 10 AA s6.2]) [0, 2, 9, 10, 1, 3, 4, 5, 6, 7, 8] (show List.Perm _ (List.range 11) by decide) rfl rfl
      refine List.Perm.symm (hp.trans ?_)
      simp only [List.flatten_cons, List.flatten_nil, List.append_nil, List.append_assoc]
      exact List.Perm.refl _
  · intro sz
    refine ⟨_, _, [], _, _, _, c2_X7_keep (post := fun r u => r = r7 ∧ u = mn) (v7 _ ⟨rfl, rfl⟩), rfl, by rw [f2, List.append_nil], fun r u hu => ?_⟩
    exact ⟨_, ⟨hu.1, b, rfl, rfl⟩, by rw [List.append_nil, hu.2]⟩
set_option maxHeartbeats 4000000 in
theorem pl_back {l : Launch} {D : va_G} {q : Nat → ClassId} {h h2 : Nat} {w w2 : va_W} {s1 : Tp} {s2 s3 : Bd} {s4 : Mo} {s5 : Pg} {s6 : Pa} {z7 : Nat → Option Bd} {m : Md} {N : Int} {x1 : Int32} (hW : c_W q h s1 s2 s3 s4 s5 s6 z7 w) (hV : m_W q h2 m w2) (hJ : JJ N s1 s2 s3 s4 s5 s6 z7 m) : ∃ (r6 r7 : Int32) (M : Int) (s2n : Bd) (s6n : Pa) (z7n : Nat → Option Bd) (mn : Md), un_i l D q 5 yX6_back cX6_back 3 (some .int) ({ frames := 3, cells := 1, slots := 6400, locals := 124 } : Room) h [.int x1] 1 6400 w (fun r w3 => r = r6 ∧ c_W q h s1 s2n s3 s4 s5 s6n z7n w3) ∧ un_i l D q 6 yX7_back cX7_back 3 (some .int) ({ frames := 2, cells := 0, slots := 0, locals := 40 } : Room) h2 [.int x1] 0 0 w2 (fun r w3 => r = r7 ∧ m_W q h2 mn w3) ∧ s6n.2 = s6.2 ∧ JJ M s1 s2n s3 s4 s5 s6n z7n mn := by
  obtain ⟨a0, a1, a2, a3, a4, a5, p8, s8, p9, AA, BB, e1, e2⟩ := hW
  obtain ⟨b, f1, f2⟩ := hV
  subst e1
  subst f1
  obtain ⟨r6, r7, M, s2n, s6n, z7n, mn, v6, v7, hn⟩ := pm_back (x1 := x1) hJ
  refine ⟨r6, r7, M, s2n, s6n, z7n, mn, ?_, ?_, hn⟩
  · intro sz
    refine ⟨_, _, [tp_w a1 q s1, bd_w a3 q s3, mo_w a4 q s4, pg_w a5 q s5, pa_r p9 q 10 AA s6.2, ps_w q 10 AA s6.2].flatten, _, _, _, c2_X6_back (a1 := a1) (a2 := a2) (a3 := a3) (a4 := a4) (a5 := a5) (p8 := p8) (s8 := s8) (p9 := p9) (z7 := z7) (AA := BB) (post := fun r y_s2 y_s6 y_z7 => r = r6 ∧ y_s2 = s2n ∧ y_s6 = s6n ∧ y_z7 = z7n) (v6 _ ⟨rfl, rfl, rfl, rfl⟩), rfl, ?_, fun r u hu => ?_⟩
    · rw [e2]
      have hp := bk_perm (L := cb_l q a0 a1 a2 a3 a4 a5 p8 s8 p9 AA BB s1 s2 s3 s4 s5 s6 z7) (L2 := [fo_w (a0 0) (a1 0) (a2 0) (a3 0) (a4 0) (a5 0) p8 s8, bd_w a2 q s2, pa_o p8 p9 s6, pa_r s8 q 2 BB z7, ps_w q 2 BB z7, tp_w a1 q s1, bd_w a3 q s3, mo_w a4 q s4, pg_w a5 q s5, pa_r p9 q 10 AA s6.2, ps_w q 10 AA s6.2]) [0, 2, 6, 9, 10, 1, 3, 4, 5, 7, 8] (show List.Perm _ (List.range 11) by decide) rfl rfl
      refine hp.trans ?_
      simp only [List.flatten_cons, List.flatten_nil, List.append_nil, List.append_assoc]
      exact List.Perm.refl _
    · obtain ⟨hr, g_s2, g_s6, g_z7⟩ := hu
      refine ⟨_, ⟨hr, a0, a1, (va_up a2 12 u.2.1), a3, a4, a5, p8, s8, p9, AA, u.1, rfl, rfl⟩, ?_⟩
      rw [← g_s2, ← g_s6, ← g_z7]
      have hp := bk_perm (L := cb_l q a0 a1 (va_up a2 12 u.2.1) a3 a4 a5 p8 s8 p9 AA u.1 s1 u.2.2.1 s3 s4 s5 u.2.2.2.1 u.2.2.2.2) (L2 := [fo_w (a0 0) (a1 0) (a2 0) (a3 0) (a4 0) (a5 0) p8 s8, bd_w (va_up a2 12 u.2.1) q u.2.2.1, pa_o p8 p9 u.2.2.2.1, pa_r s8 q 2 u.1 u.2.2.2.2, ps_w q 2 u.1 u.2.2.2.2, tp_w a1 q s1, bd_w a3 q s3, mo_w a4 q s4, pg_w a5 q s5, pa_r p9 q 10 AA u.2.2.2.1.2, ps_w q 10 AA u.2.2.2.1.2]) [0, 2, 6, 9, 10, 1, 3, 4, 5, 7, 8] (show List.Perm _ (List.range 11) by decide) rfl rfl
      refine List.Perm.symm (hp.trans ?_)
      simp only [List.flatten_cons, List.flatten_nil, List.append_nil, List.append_assoc]
      rw [show u.2.2.2.1.2 = s6.2 from (congrArg Prod.snd g_s6).trans hn.1]
  · intro sz
    refine ⟨_, _, [], _, _, _, c2_X7_back (post := fun r u => r = r7 ∧ u = mn) (v7 _ ⟨rfl, rfl⟩), rfl, by rw [f2, List.append_nil], fun r u hu => ?_⟩
    exact ⟨_, ⟨hu.1, b, rfl, rfl⟩, by rw [List.append_nil, hu.2]⟩
set_option maxHeartbeats 4000000 in
theorem pl_cell {l : Launch} {D : va_G} {q : Nat → ClassId} {h h2 : Nat} {w w2 : va_W} {s1 : Tp} {s2 s3 : Bd} {s4 : Mo} {s5 : Pg} {s6 : Pa} {z7 : Nat → Option Bd} {m : Md} {N : Int} {x1 : Int32} {x2 : Int32} (hW : c_W q h s1 s2 s3 s4 s5 s6 z7 w) (hV : m_W q h2 m w2) (hJ : JJ N s1 s2 s3 s4 s5 s6 z7 m) : ∃ (r6 r7 : Int32) (M : Int) (mn : Md), un_ri l D q 5 yX6_cell cX6_cell 3 (some .int) ({ frames := 2, cells := 0, slots := 0, locals := 42 } : Room) h [.int x1, .int x2] w (fun r => r = r6) ∧ un_ri l D q 6 yX7_cell cX7_cell 3 (some .int) ({ frames := 3, cells := 0, slots := 0, locals := 64 } : Room) h2 [.int x1, .int x2] w2 (fun r => r = r7) ∧ mn = m ∧ JJ M s1 s2 s3 s4 s5 s6 z7 mn := by
  obtain ⟨a0, a1, a2, a3, a4, a5, p8, s8, p9, AA, BB, e1, e2⟩ := hW
  obtain ⟨b, f1, f2⟩ := hV
  subst e1
  subst f1
  obtain ⟨r6, r7, M, mn, v6, v7, hn⟩ := pm_cell (x1 := x1) (x2 := x2) hJ
  refine ⟨r6, r7, M, mn, ?_, ?_, hn⟩
  · refine ⟨_, [tp_w a1 q s1, bd_w a3 q s3, mo_w a4 q s4, pg_w a5 q s5, pa_o p8 p9 s6, pa_r p9 q 10 AA s6.2, ps_w q 10 AA s6.2, pa_r s8 q 2 BB z7, ps_w q 2 BB z7].flatten, _, c2_X6_cell (a1 := a1) (a2 := a2) (a3 := a3) (a4 := a4) (a5 := a5) (p8 := p8) (s8 := s8) (post := fun r => r = r6) (v6 _ rfl), rfl, ?_⟩
    rw [e2]
    have hp := bk_perm (L := cb_l q a0 a1 a2 a3 a4 a5 p8 s8 p9 AA BB s1 s2 s3 s4 s5 s6 z7) (L2 := [fo_w (a0 0) (a1 0) (a2 0) (a3 0) (a4 0) (a5 0) p8 s8, bd_w a2 q s2, tp_w a1 q s1, bd_w a3 q s3, mo_w a4 q s4, pg_w a5 q s5, pa_o p8 p9 s6, pa_r p9 q 10 AA s6.2, ps_w q 10 AA s6.2, pa_r s8 q 2 BB z7, ps_w q 2 BB z7]) [0, 2, 1, 3, 4, 5, 6, 7, 8, 9, 10] (show List.Perm _ (List.range 11) by decide) rfl rfl
    refine hp.trans ?_
    simp only [List.flatten_cons, List.flatten_nil, List.append_nil, List.append_assoc]
    exact List.Perm.refl _
  · exact ⟨_, [], _, c2_X7_cell (post := fun r => r = r7) (v7 _ rfl), rfl, by rw [f2, List.append_nil]⟩
set_option maxHeartbeats 4000000 in
theorem pl_worn {l : Launch} {D : va_G} {q : Nat → ClassId} {h h2 : Nat} {w w2 : va_W} {s1 : Tp} {s2 s3 : Bd} {s4 : Mo} {s5 : Pg} {s6 : Pa} {z7 : Nat → Option Bd} {m : Md} {N : Int} {x1 : Int32} (hW : c_W q h s1 s2 s3 s4 s5 s6 z7 w) (hV : m_W q h2 m w2) (hJ : JJ N s1 s2 s3 s4 s5 s6 z7 m) : ∃ (r6 r7 : Int64) (M : Int) (mn : Md), un_rl l D q 5 yX6_worn cX6_worn 2 (some .long) ({ frames := 2, cells := 0, slots := 0, locals := 41 } : Room) h [.int x1] w (fun r => r = r6) ∧ un_rl l D q 6 yX7_worn cX7_worn 2 (some .long) ({ frames := 3, cells := 0, slots := 0, locals := 61 } : Room) h2 [.int x1] w2 (fun r => r = r7) ∧ mn = m ∧ JJ M s1 s2 s3 s4 s5 s6 z7 mn := by
  obtain ⟨a0, a1, a2, a3, a4, a5, p8, s8, p9, AA, BB, e1, e2⟩ := hW
  obtain ⟨b, f1, f2⟩ := hV
  subst e1
  subst f1
  obtain ⟨r6, r7, M, mn, v6, v7, hn⟩ := pm_worn (x1 := x1) hJ
  refine ⟨r6, r7, M, mn, ?_, ?_, hn⟩
  · refine ⟨_, [tp_w a1 q s1, bd_w a3 q s3, mo_w a4 q s4, pg_w a5 q s5, pa_o p8 p9 s6, pa_r p9 q 10 AA s6.2, ps_w q 10 AA s6.2, pa_r s8 q 2 BB z7, ps_w q 2 BB z7].flatten, _, c2_X6_worn (a1 := a1) (a2 := a2) (a3 := a3) (a4 := a4) (a5 := a5) (p8 := p8) (s8 := s8) (post := fun r => r = r6) (v6 _ rfl), rfl, ?_⟩
    rw [e2]
    have hp := bk_perm (L := cb_l q a0 a1 a2 a3 a4 a5 p8 s8 p9 AA BB s1 s2 s3 s4 s5 s6 z7) (L2 := [fo_w (a0 0) (a1 0) (a2 0) (a3 0) (a4 0) (a5 0) p8 s8, bd_w a2 q s2, tp_w a1 q s1, bd_w a3 q s3, mo_w a4 q s4, pg_w a5 q s5, pa_o p8 p9 s6, pa_r p9 q 10 AA s6.2, ps_w q 10 AA s6.2, pa_r s8 q 2 BB z7, ps_w q 2 BB z7]) [0, 2, 1, 3, 4, 5, 6, 7, 8, 9, 10] (show List.Perm _ (List.range 11) by decide) rfl rfl
    refine hp.trans ?_
    simp only [List.flatten_cons, List.flatten_nil, List.append_nil, List.append_assoc]
    exact List.Perm.refl _
  · exact ⟨_, [], _, c2_X7_worn (post := fun r => r = r7) (v7 _ rfl), rfl, by rw [f2, List.append_nil]⟩
set_option maxHeartbeats 4000000 in
theorem pl_drum {l : Launch} {D : va_G} {q : Nat → ClassId} {h h2 : Nat} {w w2 : va_W} {s1 : Tp} {s2 s3 : Bd} {s4 : Mo} {s5 : Pg} {s6 : Pa} {z7 : Nat → Option Bd} {m : Md} {N : Int} {x1 : Int32} {x2 : Int32} (hW : c_W q h s1 s2 s3 s4 s5 s6 z7 w) (hV : m_W q h2 m w2) (hJ : JJ N s1 s2 s3 s4 s5 s6 z7 m) : ∃ (r6 r7 : Int32) (M : Int) (mn : Md), un_ri l D q 5 yX6_drum cX6_drum 3 (some .int) ({ frames := 4, cells := 0, slots := 0, locals := 93 } : Room) h [.int x1, .int x2] w (fun r => r = r6) ∧ un_ri l D q 6 yX7_drum cX7_drum 3 (some .int) ({ frames := 3, cells := 0, slots := 0, locals := 71 } : Room) h2 [.int x1, .int x2] w2 (fun r => r = r7) ∧ mn = m ∧ JJ M s1 s2 s3 s4 s5 s6 z7 mn := by
  obtain ⟨a0, a1, a2, a3, a4, a5, p8, s8, p9, AA, BB, e1, e2⟩ := hW
  obtain ⟨b, f1, f2⟩ := hV
  subst e1
  subst f1
  obtain ⟨r6, r7, M, mn, v6, v7, hn⟩ := pm_drum (x1 := x1) (x2 := x2) hJ
  refine ⟨r6, r7, M, mn, ?_, ?_, hn⟩
  · refine ⟨_, [tp_w a1 q s1, bd_w a3 q s3, mo_w a4 q s4, pg_w a5 q s5, pa_o p8 p9 s6, pa_r p9 q 10 AA s6.2, ps_w q 10 AA s6.2, pa_r s8 q 2 BB z7, ps_w q 2 BB z7].flatten, _, c2_X6_drum (a1 := a1) (a2 := a2) (a3 := a3) (a4 := a4) (a5 := a5) (p8 := p8) (s8 := s8) (post := fun r => r = r6) (v6 _ rfl), rfl, ?_⟩
    rw [e2]
    have hp := bk_perm (L := cb_l q a0 a1 a2 a3 a4 a5 p8 s8 p9 AA BB s1 s2 s3 s4 s5 s6 z7) (L2 := [fo_w (a0 0) (a1 0) (a2 0) (a3 0) (a4 0) (a5 0) p8 s8, bd_w a2 q s2, tp_w a1 q s1, bd_w a3 q s3, mo_w a4 q s4, pg_w a5 q s5, pa_o p8 p9 s6, pa_r p9 q 10 AA s6.2, ps_w q 10 AA s6.2, pa_r s8 q 2 BB z7, ps_w q 2 BB z7]) [0, 2, 1, 3, 4, 5, 6, 7, 8, 9, 10] (show List.Perm _ (List.range 11) by decide) rfl rfl
    refine hp.trans ?_
    simp only [List.flatten_cons, List.flatten_nil, List.append_nil, List.append_assoc]
    exact List.Perm.refl _
  · exact ⟨_, [], _, c2_X7_drum (post := fun r => r = r7) (v7 _ rfl), rfl, by rw [f2, List.append_nil]⟩
set_option maxHeartbeats 4000000 in
theorem pl_sign {l : Launch} {D : va_G} {q : Nat → ClassId} {h h2 : Nat} {w w2 : va_W} {s1 : Tp} {s2 s3 : Bd} {s4 : Mo} {s5 : Pg} {s6 : Pa} {z7 : Nat → Option Bd} {m : Md} {N : Int} {x1 : Int32} {x2 : Int32} (hW : c_W q h s1 s2 s3 s4 s5 s6 z7 w) (hV : m_W q h2 m w2) (hJ : JJ N s1 s2 s3 s4 s5 s6 z7 m) : ∃ (r6 r7 : Int32) (M : Int) (mn : Md), un_ri l D q 5 yX6_sign cX6_sign 3 (some .int) ({ frames := 1, cells := 0, slots := 0, locals := 22 } : Room) h [.int x1, .int x2] w (fun r => r = r6) ∧ un_ri l D q 6 yX7_sign cX7_sign 3 (some .int) ({ frames := 2, cells := 0, slots := 0, locals := 46 } : Room) h2 [.int x1, .int x2] w2 (fun r => r = r7) ∧ mn = m ∧ JJ M s1 s2 s3 s4 s5 s6 z7 mn := by
  obtain ⟨a0, a1, a2, a3, a4, a5, p8, s8, p9, AA, BB, e1, e2⟩ := hW
  obtain ⟨b, f1, f2⟩ := hV
  subst e1
  subst f1
  obtain ⟨r6, r7, M, mn, v6, v7, hn⟩ := pm_sign (x1 := x1) (x2 := x2) hJ
  refine ⟨r6, r7, M, mn, ?_, ?_, hn⟩
  · refine ⟨_, [tp_w a1 q s1, bd_w a3 q s3, mo_w a4 q s4, pg_w a5 q s5, pa_o p8 p9 s6, pa_r p9 q 10 AA s6.2, ps_w q 10 AA s6.2, pa_r s8 q 2 BB z7, ps_w q 2 BB z7].flatten, _, c2_X6_sign (a1 := a1) (a2 := a2) (a3 := a3) (a4 := a4) (a5 := a5) (p8 := p8) (s8 := s8) (post := fun r => r = r6) (v6 _ rfl), rfl, ?_⟩
    rw [e2]
    have hp := bk_perm (L := cb_l q a0 a1 a2 a3 a4 a5 p8 s8 p9 AA BB s1 s2 s3 s4 s5 s6 z7) (L2 := [fo_w (a0 0) (a1 0) (a2 0) (a3 0) (a4 0) (a5 0) p8 s8, bd_w a2 q s2, tp_w a1 q s1, bd_w a3 q s3, mo_w a4 q s4, pg_w a5 q s5, pa_o p8 p9 s6, pa_r p9 q 10 AA s6.2, ps_w q 10 AA s6.2, pa_r s8 q 2 BB z7, ps_w q 2 BB z7]) [0, 2, 1, 3, 4, 5, 6, 7, 8, 9, 10] (show List.Perm _ (List.range 11) by decide) rfl rfl
    refine hp.trans ?_
    simp only [List.flatten_cons, List.flatten_nil, List.append_nil, List.append_assoc]
    exact List.Perm.refl _
  · exact ⟨_, [], _, c2_X7_sign (post := fun r => r = r7) (v7 _ rfl), rfl, by rw [f2, List.append_nil]⟩
set_option maxHeartbeats 4000000 in
theorem pl_at {l : Launch} {D : va_G} {q : Nat → ClassId} {h h2 : Nat} {w w2 : va_W} {s1 : Tp} {s2 s3 : Bd} {s4 : Mo} {s5 : Pg} {s6 : Pa} {z7 : Nat → Option Bd} {m : Md} {N : Int} {x1 : Int32} {x2 : Int32} {x3 : Int32} (hW : c_W q h s1 s2 s3 s4 s5 s6 z7 w) (hV : m_W q h2 m w2) (hJ : JJ N s1 s2 s3 s4 s5 s6 z7 m) : ∃ (r6 r7 : Int32) (M : Int) (mn : Md), un_ri l D q 5 yX6_at cX6_at 5 (some .int) ({ frames := 2, cells := 0, slots := 0, locals := 44 } : Room) h [.int x1, .int x2, .int x3] w (fun r => r = r6) ∧ un_ri l D q 6 yX7_at cX7_at 4 (some .int) ({ frames := 2, cells := 0, slots := 0, locals := 46 } : Room) h2 [.int x1, .int x2, .int x3] w2 (fun r => r = r7) ∧ mn = m ∧ JJ M s1 s2 s3 s4 s5 s6 z7 mn := by
  obtain ⟨a0, a1, a2, a3, a4, a5, p8, s8, p9, AA, BB, e1, e2⟩ := hW
  obtain ⟨b, f1, f2⟩ := hV
  subst e1
  subst f1
  obtain ⟨r6, r7, M, mn, v6, v7, hn⟩ := pm_at (x1 := x1) (x2 := x2) (x3 := x3) hJ
  refine ⟨r6, r7, M, mn, ?_, ?_, hn⟩
  · refine ⟨_, [tp_w a1 q s1, bd_w a3 q s3, mo_w a4 q s4, pg_w a5 q s5, pa_o p8 p9 s6, pa_r p9 q 10 AA s6.2, ps_w q 10 AA s6.2, pa_r s8 q 2 BB z7, ps_w q 2 BB z7].flatten, _, c2_X6_at (a1 := a1) (a2 := a2) (a3 := a3) (a4 := a4) (a5 := a5) (p8 := p8) (s8 := s8) (post := fun r => r = r6) (v6 _ rfl), rfl, ?_⟩
    rw [e2]
    have hp := bk_perm (L := cb_l q a0 a1 a2 a3 a4 a5 p8 s8 p9 AA BB s1 s2 s3 s4 s5 s6 z7) (L2 := [fo_w (a0 0) (a1 0) (a2 0) (a3 0) (a4 0) (a5 0) p8 s8, bd_w a2 q s2, tp_w a1 q s1, bd_w a3 q s3, mo_w a4 q s4, pg_w a5 q s5, pa_o p8 p9 s6, pa_r p9 q 10 AA s6.2, ps_w q 10 AA s6.2, pa_r s8 q 2 BB z7, ps_w q 2 BB z7]) [0, 2, 1, 3, 4, 5, 6, 7, 8, 9, 10] (show List.Perm _ (List.range 11) by decide) rfl rfl
    refine hp.trans ?_
    simp only [List.flatten_cons, List.flatten_nil, List.append_nil, List.append_assoc]
    exact List.Perm.refl _
  · exact ⟨_, [], _, c2_X7_at (post := fun r => r = r7) (v7 _ rfl), rfl, by rw [f2, List.append_nil]⟩
set_option maxHeartbeats 4000000 in
theorem pl_which {l : Launch} {D : va_G} {q : Nat → ClassId} {h h2 : Nat} {w w2 : va_W} {s1 : Tp} {s2 s3 : Bd} {s4 : Mo} {s5 : Pg} {s6 : Pa} {z7 : Nat → Option Bd} {m : Md} {N : Int} {x1 : Int32} (hW : c_W q h s1 s2 s3 s4 s5 s6 z7 w) (hV : m_W q h2 m w2) (hJ : JJ N s1 s2 s3 s4 s5 s6 z7 m) : ∃ (r6 r7 : Int64) (M : Int) (s4n : Mo) (mn : Md), un_l l D q 5 yX6_which cX6_which 5 (some .long) ({ frames := 5, cells := 0, slots := 0, locals := 108 } : Room) h [.int x1] 0 0 w (fun r w3 => r = r6 ∧ c_W q h s1 s2 s3 s4n s5 s6 z7 w3) ∧ un_l l D q 6 yX7_which cX7_which 5 (some .long) ({ frames := 4, cells := 0, slots := 0, locals := 89 } : Room) h2 [.int x1] 0 0 w2 (fun r w3 => r = r7 ∧ m_W q h2 mn w3) ∧ JJ M s1 s2 s3 s4n s5 s6 z7 mn := by
  obtain ⟨a0, a1, a2, a3, a4, a5, p8, s8, p9, AA, BB, e1, e2⟩ := hW
  obtain ⟨b, f1, f2⟩ := hV
  subst e1
  subst f1
  obtain ⟨r6, r7, M, s4n, mn, v6, v7, hn⟩ := pm_which (x1 := x1) hJ
  refine ⟨r6, r7, M, s4n, mn, ?_, ?_, hn⟩
  · intro sz
    refine ⟨_, _, [tp_w a1 q s1, bd_w a3 q s3, pg_w a5 q s5, pa_o p8 p9 s6, pa_r p9 q 10 AA s6.2, ps_w q 10 AA s6.2, pa_r s8 q 2 BB z7, ps_w q 2 BB z7].flatten, _, _, _, c2_X6_which (a1 := a1) (a2 := a2) (a3 := a3) (a4 := a4) (a5 := a5) (p8 := p8) (s8 := s8) (post := fun r y_s4 => r = r6 ∧ y_s4 = s4n) (v6 _ ⟨rfl, rfl⟩), rfl, ?_, fun r u hu => ?_⟩
    · rw [e2]
      have hp := bk_perm (L := cb_l q a0 a1 a2 a3 a4 a5 p8 s8 p9 AA BB s1 s2 s3 s4 s5 s6 z7) (L2 := [fo_w (a0 0) (a1 0) (a2 0) (a3 0) (a4 0) (a5 0) p8 s8, bd_w a2 q s2, mo_w a4 q s4, tp_w a1 q s1, bd_w a3 q s3, pg_w a5 q s5, pa_o p8 p9 s6, pa_r p9 q 10 AA s6.2, ps_w q 10 AA s6.2, pa_r s8 q 2 BB z7, ps_w q 2 BB z7]) [0, 2, 4, 1, 3, 5, 6, 7, 8, 9, 10] (show List.Perm _ (List.range 11) by decide) rfl rfl
      refine hp.trans ?_
      simp only [List.flatten_cons, List.flatten_nil, List.append_nil, List.append_assoc]
      exact List.Perm.refl _
    · obtain ⟨hr, g_s4⟩ := hu
      refine ⟨_, ⟨hr, a0, a1, a2, a3, a4, a5, p8, s8, p9, AA, BB, rfl, rfl⟩, ?_⟩
      rw [← g_s4]
      have hp := bk_perm (L := cb_l q a0 a1 a2 a3 a4 a5 p8 s8 p9 AA BB s1 s2 s3 u s5 s6 z7) (L2 := [fo_w (a0 0) (a1 0) (a2 0) (a3 0) (a4 0) (a5 0) p8 s8, bd_w a2 q s2, mo_w a4 q u, tp_w a1 q s1, bd_w a3 q s3, pg_w a5 q s5, pa_o p8 p9 s6, pa_r p9 q 10 AA s6.2, ps_w q 10 AA s6.2, pa_r s8 q 2 BB z7, ps_w q 2 BB z7]) [0, 2, 4, 1, 3, 5, 6, 7, 8, 9, 10] (show List.Perm _ (List.range 11) by decide) rfl rfl
      refine List.Perm.symm (hp.trans ?_)
      simp only [List.flatten_cons, List.flatten_nil, List.append_nil, List.append_assoc]
      exact List.Perm.refl _
  · intro sz
    refine ⟨_, _, [], _, _, _, c2_X7_which (post := fun r u => r = r7 ∧ u = mn) (v7 _ ⟨rfl, rfl⟩), rfl, by rw [f2, List.append_nil], fun r u hu => ?_⟩
    exact ⟨_, ⟨hu.1, b, rfl, rfl⟩, by rw [List.append_nil, hu.2]⟩
set_option maxHeartbeats 4000000 in
theorem pl_left {l : Launch} {D : va_G} {q : Nat → ClassId} {h h2 : Nat} {w w2 : va_W} {s1 : Tp} {s2 s3 : Bd} {s4 : Mo} {s5 : Pg} {s6 : Pa} {z7 : Nat → Option Bd} {m : Md} {N : Int} {x1 : Int32} (hW : c_W q h s1 s2 s3 s4 s5 s6 z7 w) (hV : m_W q h2 m w2) (hJ : JJ N s1 s2 s3 s4 s5 s6 z7 m) : ∃ (r6 r7 : Int32) (M : Int) (mn : Md), un_ri l D q 5 yX6_left cX6_left 2 (some .int) ({ frames := 3, cells := 0, slots := 0, locals := 84 } : Room) h [.int x1] w (fun r => r = r6) ∧ un_ri l D q 6 yX7_left cX7_left 6 (some .int) ({ frames := 3, cells := 0, slots := 0, locals := 64 } : Room) h2 [.int x1] w2 (fun r => r = r7) ∧ mn = m ∧ JJ M s1 s2 s3 s4 s5 s6 z7 mn := by
  obtain ⟨a0, a1, a2, a3, a4, a5, p8, s8, p9, AA, BB, e1, e2⟩ := hW
  obtain ⟨b, f1, f2⟩ := hV
  subst e1
  subst f1
  obtain ⟨r6, r7, M, mn, v6, v7, hn⟩ := pm_left (x1 := x1) hJ
  refine ⟨r6, r7, M, mn, ?_, ?_, hn⟩
  · refine ⟨_, [tp_w a1 q s1, bd_w a3 q s3, mo_w a4 q s4, pg_w a5 q s5, pa_o p8 p9 s6, pa_r p9 q 10 AA s6.2, ps_w q 10 AA s6.2, pa_r s8 q 2 BB z7, ps_w q 2 BB z7].flatten, _, c2_X6_left (a1 := a1) (a2 := a2) (a3 := a3) (a4 := a4) (a5 := a5) (p8 := p8) (s8 := s8) (post := fun r => r = r6) (v6 _ rfl), rfl, ?_⟩
    rw [e2]
    have hp := bk_perm (L := cb_l q a0 a1 a2 a3 a4 a5 p8 s8 p9 AA BB s1 s2 s3 s4 s5 s6 z7) (L2 := [fo_w (a0 0) (a1 0) (a2 0) (a3 0) (a4 0) (a5 0) p8 s8, bd_w a2 q s2, tp_w a1 q s1, bd_w a3 q s3, mo_w a4 q s4, pg_w a5 q s5, pa_o p8 p9 s6, pa_r p9 q 10 AA s6.2, ps_w q 10 AA s6.2, pa_r s8 q 2 BB z7, ps_w q 2 BB z7]) [0, 2, 1, 3, 4, 5, 6, 7, 8, 9, 10] (show List.Perm _ (List.range 11) by decide) rfl rfl
    refine hp.trans ?_
    simp only [List.flatten_cons, List.flatten_nil, List.append_nil, List.append_assoc]
    exact List.Perm.refl _
  · exact ⟨_, [], _, c2_X7_left (post := fun r => r = r7) (v7 _ rfl), rfl, by rw [f2, List.append_nil]⟩
set_option maxHeartbeats 4000000 in
theorem pl_when {l : Launch} {D : va_G} {q : Nat → ClassId} {h h2 : Nat} {w w2 : va_W} {s1 : Tp} {s2 s3 : Bd} {s4 : Mo} {s5 : Pg} {s6 : Pa} {z7 : Nat → Option Bd} {m : Md} {N : Int} {x1 : Int32} (hW : c_W q h s1 s2 s3 s4 s5 s6 z7 w) (hV : m_W q h2 m w2) (hJ : JJ N s1 s2 s3 s4 s5 s6 z7 m) : ∃ (r6 r7 : Int32) (M : Int) (s3n : Bd) (s4n : Mo) (mn : Md), un_i l D q 5 yX6_when cX6_when 2 (some .int) ({ frames := 5, cells := 0, slots := 0, locals := 134 } : Room) h [.int x1] 0 0 w (fun r w3 => r = r6 ∧ c_W q h s1 s2 s3n s4n s5 s6 z7 w3) ∧ un_i l D q 6 yX7_when cX7_when 8 (some .int) ({ frames := 5, cells := 0, slots := 0, locals := 110 } : Room) h2 [.int x1] 0 0 w2 (fun r w3 => r = r7 ∧ m_W q h2 mn w3) ∧ JJ M s1 s2 s3n s4n s5 s6 z7 mn := by
  obtain ⟨a0, a1, a2, a3, a4, a5, p8, s8, p9, AA, BB, e1, e2⟩ := hW
  obtain ⟨b, f1, f2⟩ := hV
  subst e1
  subst f1
  obtain ⟨r6, r7, M, s3n, s4n, mn, v6, v7, hn⟩ := pm_when (x1 := x1) hJ
  refine ⟨r6, r7, M, s3n, s4n, mn, ?_, ?_, hn⟩
  · intro sz
    refine ⟨_, _, [tp_w a1 q s1, pg_w a5 q s5, pa_o p8 p9 s6, pa_r p9 q 10 AA s6.2, ps_w q 10 AA s6.2, pa_r s8 q 2 BB z7, ps_w q 2 BB z7].flatten, _, _, _, c2_X6_when (a1 := a1) (a2 := a2) (a3 := a3) (a4 := a4) (a5 := a5) (p8 := p8) (s8 := s8) (post := fun r y_s3 y_s4 => r = r6 ∧ y_s3 = s3n ∧ y_s4 = s4n) (v6 _ ⟨rfl, rfl, rfl⟩), rfl, ?_, fun r u hu => ?_⟩
    · rw [e2]
      have hp := bk_perm (L := cb_l q a0 a1 a2 a3 a4 a5 p8 s8 p9 AA BB s1 s2 s3 s4 s5 s6 z7) (L2 := [fo_w (a0 0) (a1 0) (a2 0) (a3 0) (a4 0) (a5 0) p8 s8, bd_w a2 q s2, bd_w a3 q s3, mo_w a4 q s4, tp_w a1 q s1, pg_w a5 q s5, pa_o p8 p9 s6, pa_r p9 q 10 AA s6.2, ps_w q 10 AA s6.2, pa_r s8 q 2 BB z7, ps_w q 2 BB z7]) [0, 2, 3, 4, 1, 5, 6, 7, 8, 9, 10] (show List.Perm _ (List.range 11) by decide) rfl rfl
      refine hp.trans ?_
      simp only [List.flatten_cons, List.flatten_nil, List.append_nil, List.append_assoc]
      exact List.Perm.refl _
    · obtain ⟨hr, g_s3, g_s4⟩ := hu
      refine ⟨_, ⟨hr, a0, a1, a2, a3, a4, a5, p8, s8, p9, AA, BB, rfl, rfl⟩, ?_⟩
      rw [← g_s3, ← g_s4]
      have hp := bk_perm (L := cb_l q a0 a1 a2 a3 a4 a5 p8 s8 p9 AA BB s1 s2 u.1 u.2 s5 s6 z7) (L2 := [fo_w (a0 0) (a1 0) (a2 0) (a3 0) (a4 0) (a5 0) p8 s8, bd_w a2 q s2, bd_w a3 q u.1, mo_w a4 q u.2, tp_w a1 q s1, pg_w a5 q s5, pa_o p8 p9 s6, pa_r p9 q 10 AA s6.2, ps_w q 10 AA s6.2, pa_r s8 q 2 BB z7, ps_w q 2 BB z7]) [0, 2, 3, 4, 1, 5, 6, 7, 8, 9, 10] (show List.Perm _ (List.range 11) by decide) rfl rfl
      refine List.Perm.symm (hp.trans ?_)
      simp only [List.flatten_cons, List.flatten_nil, List.append_nil, List.append_assoc]
      exact List.Perm.refl _
  · intro sz
    refine ⟨_, _, [], _, _, _, c2_X7_when (post := fun r u => r = r7 ∧ u = mn) (v7 _ ⟨rfl, rfl⟩), rfl, by rw [f2, List.append_nil], fun r u hu => ?_⟩
    exact ⟨_, ⟨hu.1, b, rfl, rfl⟩, by rw [List.append_nil, hu.2]⟩
set_option maxHeartbeats 4000000 in
theorem pl_loudest {l : Launch} {D : va_G} {q : Nat → ClassId} {h h2 : Nat} {w w2 : va_W} {s1 : Tp} {s2 s3 : Bd} {s4 : Mo} {s5 : Pg} {s6 : Pa} {z7 : Nat → Option Bd} {m : Md} {N : Int} {x1 : Int32} (hW : c_W q h s1 s2 s3 s4 s5 s6 z7 w) (hV : m_W q h2 m w2) (hJ : JJ N s1 s2 s3 s4 s5 s6 z7 m) : ∃ (r6 r7 : Int32) (M : Int) (s3n : Bd) (s4n : Mo) (mn : Md), un_i l D q 5 yX6_loudest cX6_loudest 2 (some .int) ({ frames := 5, cells := 0, slots := 0, locals := 134 } : Room) h [.int x1] 0 0 w (fun r w3 => r = r6 ∧ c_W q h s1 s2 s3n s4n s5 s6 z7 w3) ∧ un_i l D q 6 yX7_loudest cX7_loudest 5 (some .int) ({ frames := 5, cells := 0, slots := 0, locals := 110 } : Room) h2 [.int x1] 0 0 w2 (fun r w3 => r = r7 ∧ m_W q h2 mn w3) ∧ JJ M s1 s2 s3n s4n s5 s6 z7 mn := by
  obtain ⟨a0, a1, a2, a3, a4, a5, p8, s8, p9, AA, BB, e1, e2⟩ := hW
  obtain ⟨b, f1, f2⟩ := hV
  subst e1
  subst f1
  obtain ⟨r6, r7, M, s3n, s4n, mn, v6, v7, hn⟩ := pm_loudest (x1 := x1) hJ
  refine ⟨r6, r7, M, s3n, s4n, mn, ?_, ?_, hn⟩
  · intro sz
    refine ⟨_, _, [tp_w a1 q s1, pg_w a5 q s5, pa_o p8 p9 s6, pa_r p9 q 10 AA s6.2, ps_w q 10 AA s6.2, pa_r s8 q 2 BB z7, ps_w q 2 BB z7].flatten, _, _, _, c2_X6_loudest (a1 := a1) (a2 := a2) (a3 := a3) (a4 := a4) (a5 := a5) (p8 := p8) (s8 := s8) (post := fun r y_s3 y_s4 => r = r6 ∧ y_s3 = s3n ∧ y_s4 = s4n) (v6 _ ⟨rfl, rfl, rfl⟩), rfl, ?_, fun r u hu => ?_⟩
    · rw [e2]
      have hp := bk_perm (L := cb_l q a0 a1 a2 a3 a4 a5 p8 s8 p9 AA BB s1 s2 s3 s4 s5 s6 z7) (L2 := [fo_w (a0 0) (a1 0) (a2 0) (a3 0) (a4 0) (a5 0) p8 s8, bd_w a2 q s2, bd_w a3 q s3, mo_w a4 q s4, tp_w a1 q s1, pg_w a5 q s5, pa_o p8 p9 s6, pa_r p9 q 10 AA s6.2, ps_w q 10 AA s6.2, pa_r s8 q 2 BB z7, ps_w q 2 BB z7]) [0, 2, 3, 4, 1, 5, 6, 7, 8, 9, 10] (show List.Perm _ (List.range 11) by decide) rfl rfl
      refine hp.trans ?_
      simp only [List.flatten_cons, List.flatten_nil, List.append_nil, List.append_assoc]
      exact List.Perm.refl _
    · obtain ⟨hr, g_s3, g_s4⟩ := hu
      refine ⟨_, ⟨hr, a0, a1, a2, a3, a4, a5, p8, s8, p9, AA, BB, rfl, rfl⟩, ?_⟩
      rw [← g_s3, ← g_s4]
      have hp := bk_perm (L := cb_l q a0 a1 a2 a3 a4 a5 p8 s8 p9 AA BB s1 s2 u.1 u.2 s5 s6 z7) (L2 := [fo_w (a0 0) (a1 0) (a2 0) (a3 0) (a4 0) (a5 0) p8 s8, bd_w a2 q s2, bd_w a3 q u.1, mo_w a4 q u.2, tp_w a1 q s1, pg_w a5 q s5, pa_o p8 p9 s6, pa_r p9 q 10 AA s6.2, ps_w q 10 AA s6.2, pa_r s8 q 2 BB z7, ps_w q 2 BB z7]) [0, 2, 3, 4, 1, 5, 6, 7, 8, 9, 10] (show List.Perm _ (List.range 11) by decide) rfl rfl
      refine List.Perm.symm (hp.trans ?_)
      simp only [List.flatten_cons, List.flatten_nil, List.append_nil, List.append_assoc]
      exact List.Perm.refl _
  · intro sz
    refine ⟨_, _, [], _, _, _, c2_X7_loudest (post := fun r u => r = r7 ∧ u = mn) (v7 _ ⟨rfl, rfl⟩), rfl, by rw [f2, List.append_nil], fun r u hu => ?_⟩
    exact ⟨_, ⟨hu.1, b, rfl, rfl⟩, by rw [List.append_nil, hu.2]⟩
set_option maxHeartbeats 4000000 in
theorem pl_total {l : Launch} {D : va_G} {q : Nat → ClassId} {h h2 : Nat} {w w2 : va_W} {s1 : Tp} {s2 s3 : Bd} {s4 : Mo} {s5 : Pg} {s6 : Pa} {z7 : Nat → Option Bd} {m : Md} {N : Int} {x1 : Int32} (hW : c_W q h s1 s2 s3 s4 s5 s6 z7 w) (hV : m_W q h2 m w2) (hJ : JJ N s1 s2 s3 s4 s5 s6 z7 m) : ∃ (r6 r7 : Int32) (M : Int) (mn : Md), un_ri l D q 5 yX6_total cX6_total 2 (some .int) ({ frames := 2, cells := 0, slots := 0, locals := 43 } : Room) h [.int x1] w (fun r => r = r6) ∧ un_ri l D q 6 yX7_total cX7_total 2 (some .int) ({ frames := 2, cells := 0, slots := 0, locals := 40 } : Room) h2 [.int x1] w2 (fun r => r = r7) ∧ mn = m ∧ JJ M s1 s2 s3 s4 s5 s6 z7 mn := by
  obtain ⟨a0, a1, a2, a3, a4, a5, p8, s8, p9, AA, BB, e1, e2⟩ := hW
  obtain ⟨b, f1, f2⟩ := hV
  subst e1
  subst f1
  obtain ⟨r6, r7, M, mn, v6, v7, hn⟩ := pm_total (x1 := x1) hJ
  refine ⟨r6, r7, M, mn, ?_, ?_, hn⟩
  · refine ⟨_, [tp_w a1 q s1, bd_w a3 q s3, mo_w a4 q s4, pg_w a5 q s5, pa_o p8 p9 s6, pa_r p9 q 10 AA s6.2, ps_w q 10 AA s6.2, pa_r s8 q 2 BB z7, ps_w q 2 BB z7].flatten, _, c2_X6_total (a1 := a1) (a2 := a2) (a3 := a3) (a4 := a4) (a5 := a5) (p8 := p8) (s8 := s8) (post := fun r => r = r6) (v6 _ rfl), rfl, ?_⟩
    rw [e2]
    have hp := bk_perm (L := cb_l q a0 a1 a2 a3 a4 a5 p8 s8 p9 AA BB s1 s2 s3 s4 s5 s6 z7) (L2 := [fo_w (a0 0) (a1 0) (a2 0) (a3 0) (a4 0) (a5 0) p8 s8, bd_w a2 q s2, tp_w a1 q s1, bd_w a3 q s3, mo_w a4 q s4, pg_w a5 q s5, pa_o p8 p9 s6, pa_r p9 q 10 AA s6.2, ps_w q 10 AA s6.2, pa_r s8 q 2 BB z7, ps_w q 2 BB z7]) [0, 2, 1, 3, 4, 5, 6, 7, 8, 9, 10] (show List.Perm _ (List.range 11) by decide) rfl rfl
    refine hp.trans ?_
    simp only [List.flatten_cons, List.flatten_nil, List.append_nil, List.append_assoc]
    exact List.Perm.refl _
  · exact ⟨_, [], _, c2_X7_total (post := fun r => r = r7) (v7 _ rfl), rfl, by rw [f2, List.append_nil]⟩
set_option maxHeartbeats 4000000 in
theorem pl_cost {l : Launch} {D : va_G} {q : Nat → ClassId} {h h2 : Nat} {w w2 : va_W} {s1 : Tp} {s2 s3 : Bd} {s4 : Mo} {s5 : Pg} {s6 : Pa} {z7 : Nat → Option Bd} {m : Md} {N : Int} {x1 : Int32} (hW : c_W q h s1 s2 s3 s4 s5 s6 z7 w) (hV : m_W q h2 m w2) (hJ : JJ N s1 s2 s3 s4 s5 s6 z7 m) : ∃ (r6 r7 : Int32) (M : Int) (mn : Md), un_ri l D q 5 yX6_cost cX6_cost 3 (some .int) ({ frames := 3, cells := 0, slots := 0, locals := 83 } : Room) h [.int x1] w (fun r => r = r6) ∧ un_i l D q 6 yX7_cost cX7_cost 2 (some .int) ({ frames := 4, cells := 0, slots := 0, locals := 95 } : Room) h2 [.int x1] 0 0 w2 (fun r w3 => r = r7 ∧ m_W q h2 mn w3) ∧ JJ M s1 s2 s3 s4 s5 s6 z7 mn := by
  obtain ⟨a0, a1, a2, a3, a4, a5, p8, s8, p9, AA, BB, e1, e2⟩ := hW
  obtain ⟨b, f1, f2⟩ := hV
  subst e1
  subst f1
  obtain ⟨r6, r7, M, mn, v6, v7, hn⟩ := pm_cost (x1 := x1) hJ
  refine ⟨r6, r7, M, mn, ?_, ?_, hn⟩
  · refine ⟨_, [bd_w a3 q s3, mo_w a4 q s4, pg_w a5 q s5, pa_o p8 p9 s6, pa_r p9 q 10 AA s6.2, ps_w q 10 AA s6.2, pa_r s8 q 2 BB z7, ps_w q 2 BB z7].flatten, _, c2_X6_cost (a1 := a1) (a2 := a2) (a3 := a3) (a4 := a4) (a5 := a5) (p8 := p8) (s8 := s8) (post := fun r => r = r6) (v6 _ rfl), rfl, ?_⟩
    rw [e2]
    have hp := bk_perm (L := cb_l q a0 a1 a2 a3 a4 a5 p8 s8 p9 AA BB s1 s2 s3 s4 s5 s6 z7) (L2 := [fo_w (a0 0) (a1 0) (a2 0) (a3 0) (a4 0) (a5 0) p8 s8, tp_w a1 q s1, bd_w a2 q s2, bd_w a3 q s3, mo_w a4 q s4, pg_w a5 q s5, pa_o p8 p9 s6, pa_r p9 q 10 AA s6.2, ps_w q 10 AA s6.2, pa_r s8 q 2 BB z7, ps_w q 2 BB z7]) [0, 1, 2, 3, 4, 5, 6, 7, 8, 9, 10] (show List.Perm _ (List.range 11) by decide) rfl rfl
    refine hp.trans ?_
    simp only [List.flatten_cons, List.flatten_nil, List.append_nil, List.append_assoc]
    exact List.Perm.refl _
  · intro sz
    refine ⟨_, _, [], _, _, _, c2_X7_cost (post := fun r u => r = r7 ∧ u = mn) (v7 _ ⟨rfl, rfl⟩), rfl, by rw [f2, List.append_nil], fun r u hu => ?_⟩
    exact ⟨_, ⟨hu.1, b, rfl, rfl⟩, by rw [List.append_nil, hu.2]⟩
set_option maxHeartbeats 4000000 in
theorem pl_best {l : Launch} {D : va_G} {q : Nat → ClassId} {h h2 : Nat} {w w2 : va_W} {s1 : Tp} {s2 s3 : Bd} {s4 : Mo} {s5 : Pg} {s6 : Pa} {z7 : Nat → Option Bd} {m : Md} {N : Int} {x1 : Int32} {x2 : Int32} (hW : c_W q h s1 s2 s3 s4 s5 s6 z7 w) (hV : m_W q h2 m w2) (hJ : JJ N s1 s2 s3 s4 s5 s6 z7 m) : ∃ (r6 r7 : Int32) (M : Int) (mn : Md), un_ri l D q 5 yX6_best cX6_best 12 (some .int) ({ frames := 3, cells := 0, slots := 0, locals := 83 } : Room) h [.int x1, .int x2] w (fun r => r = r6) ∧ un_i l D q 6 yX7_best cX7_best 9 (some .int) ({ frames := 4, cells := 0, slots := 0, locals := 95 } : Room) h2 [.int x1, .int x2] 0 0 w2 (fun r w3 => r = r7 ∧ m_W q h2 mn w3) ∧ JJ M s1 s2 s3 s4 s5 s6 z7 mn := by
  obtain ⟨a0, a1, a2, a3, a4, a5, p8, s8, p9, AA, BB, e1, e2⟩ := hW
  obtain ⟨b, f1, f2⟩ := hV
  subst e1
  subst f1
  obtain ⟨r6, r7, M, mn, v6, v7, hn⟩ := pm_best (x1 := x1) (x2 := x2) hJ
  refine ⟨r6, r7, M, mn, ?_, ?_, hn⟩
  · refine ⟨_, [bd_w a3 q s3, mo_w a4 q s4, pg_w a5 q s5, pa_o p8 p9 s6, pa_r p9 q 10 AA s6.2, ps_w q 10 AA s6.2, pa_r s8 q 2 BB z7, ps_w q 2 BB z7].flatten, _, c2_X6_best (a1 := a1) (a2 := a2) (a3 := a3) (a4 := a4) (a5 := a5) (p8 := p8) (s8 := s8) (post := fun r => r = r6) (v6 _ rfl), rfl, ?_⟩
    rw [e2]
    have hp := bk_perm (L := cb_l q a0 a1 a2 a3 a4 a5 p8 s8 p9 AA BB s1 s2 s3 s4 s5 s6 z7) (L2 := [fo_w (a0 0) (a1 0) (a2 0) (a3 0) (a4 0) (a5 0) p8 s8, tp_w a1 q s1, bd_w a2 q s2, bd_w a3 q s3, mo_w a4 q s4, pg_w a5 q s5, pa_o p8 p9 s6, pa_r p9 q 10 AA s6.2, ps_w q 10 AA s6.2, pa_r s8 q 2 BB z7, ps_w q 2 BB z7]) [0, 1, 2, 3, 4, 5, 6, 7, 8, 9, 10] (show List.Perm _ (List.range 11) by decide) rfl rfl
    refine hp.trans ?_
    simp only [List.flatten_cons, List.flatten_nil, List.append_nil, List.append_assoc]
    exact List.Perm.refl _
  · intro sz
    refine ⟨_, _, [], _, _, _, c2_X7_best (post := fun r u => r = r7 ∧ u = mn) (v7 _ ⟨rfl, rfl⟩), rfl, by rw [f2, List.append_nil], fun r u hu => ?_⟩
    exact ⟨_, ⟨hu.1, b, rfl, rfl⟩, by rw [List.append_nil, hu.2]⟩
set_option maxHeartbeats 4000000 in
theorem pl_place {l : Launch} {D : va_G} {q : Nat → ClassId} {h h2 : Nat} {w w2 : va_W} {s1 : Tp} {s2 s3 : Bd} {s4 : Mo} {s5 : Pg} {s6 : Pa} {z7 : Nat → Option Bd} {m : Md} {N : Int} {x1 : Int32} {x2 : Int32} (hW : c_W q h s1 s2 s3 s4 s5 s6 z7 w) (hV : m_W q h2 m w2) (hJ : JJ N s1 s2 s3 s4 s5 s6 z7 m) : ∃ (r6 r7 : Int32) (M : Int) (mn : Md), un_ri l D q 5 yX6_place cX6_place 10 (some .int) ({ frames := 3, cells := 0, slots := 0, locals := 83 } : Room) h [.int x1, .int x2] w (fun r => r = r6) ∧ un_i l D q 6 yX7_place cX7_place 7 (some .int) ({ frames := 4, cells := 0, slots := 0, locals := 95 } : Room) h2 [.int x1, .int x2] 0 0 w2 (fun r w3 => r = r7 ∧ m_W q h2 mn w3) ∧ JJ M s1 s2 s3 s4 s5 s6 z7 mn := by
  obtain ⟨a0, a1, a2, a3, a4, a5, p8, s8, p9, AA, BB, e1, e2⟩ := hW
  obtain ⟨b, f1, f2⟩ := hV
  subst e1
  subst f1
  obtain ⟨r6, r7, M, mn, v6, v7, hn⟩ := pm_place (x1 := x1) (x2 := x2) hJ
  refine ⟨r6, r7, M, mn, ?_, ?_, hn⟩
  · refine ⟨_, [bd_w a3 q s3, mo_w a4 q s4, pg_w a5 q s5, pa_o p8 p9 s6, pa_r p9 q 10 AA s6.2, ps_w q 10 AA s6.2, pa_r s8 q 2 BB z7, ps_w q 2 BB z7].flatten, _, c2_X6_place (a1 := a1) (a2 := a2) (a3 := a3) (a4 := a4) (a5 := a5) (p8 := p8) (s8 := s8) (post := fun r => r = r6) (v6 _ rfl), rfl, ?_⟩
    rw [e2]
    have hp := bk_perm (L := cb_l q a0 a1 a2 a3 a4 a5 p8 s8 p9 AA BB s1 s2 s3 s4 s5 s6 z7) (L2 := [fo_w (a0 0) (a1 0) (a2 0) (a3 0) (a4 0) (a5 0) p8 s8, tp_w a1 q s1, bd_w a2 q s2, bd_w a3 q s3, mo_w a4 q s4, pg_w a5 q s5, pa_o p8 p9 s6, pa_r p9 q 10 AA s6.2, ps_w q 10 AA s6.2, pa_r s8 q 2 BB z7, ps_w q 2 BB z7]) [0, 1, 2, 3, 4, 5, 6, 7, 8, 9, 10] (show List.Perm _ (List.range 11) by decide) rfl rfl
    refine hp.trans ?_
    simp only [List.flatten_cons, List.flatten_nil, List.append_nil, List.append_assoc]
    exact List.Perm.refl _
  · intro sz
    refine ⟨_, _, [], _, _, _, c2_X7_place (post := fun r u => r = r7 ∧ u = mn) (v7 _ ⟨rfl, rfl⟩), rfl, by rw [f2, List.append_nil], fun r u hu => ?_⟩
    exact ⟨_, ⟨hu.1, b, rfl, rfl⟩, by rw [List.append_nil, hu.2]⟩
set_option maxHeartbeats 4000000 in
theorem pl_log {l : Launch} {D : va_G} {q : Nat → ClassId} {h h2 : Nat} {w w2 : va_W} {s1 : Tp} {s2 s3 : Bd} {s4 : Mo} {s5 : Pg} {s6 : Pa} {z7 : Nat → Option Bd} {m : Md} {N : Int} {x1 : Int32} {x2 : Int32} (hW : c_W q h s1 s2 s3 s4 s5 s6 z7 w) (hV : m_W q h2 m w2) (hJ : JJ N s1 s2 s3 s4 s5 s6 z7 m) : ∃ (r6 r7 : Int32) (M : Int) (mn : Md), un_ri l D q 5 yX6_log cX6_log 3 (some .int) ({ frames := 3, cells := 0, slots := 0, locals := 75 } : Room) h [.int x1, .int x2] w (fun r => r = r6) ∧ un_ri l D q 6 yX7_log cX7_log 3 (some .int) ({ frames := 2, cells := 0, slots := 0, locals := 50 } : Room) h2 [.int x1, .int x2] w2 (fun r => r = r7) ∧ mn = m ∧ JJ M s1 s2 s3 s4 s5 s6 z7 mn := by
  obtain ⟨a0, a1, a2, a3, a4, a5, p8, s8, p9, AA, BB, e1, e2⟩ := hW
  obtain ⟨b, f1, f2⟩ := hV
  subst e1
  subst f1
  obtain ⟨r6, r7, M, mn, v6, v7, hn⟩ := pm_log (x1 := x1) (x2 := x2) hJ
  refine ⟨r6, r7, M, mn, ?_, ?_, hn⟩
  · refine ⟨_, [tp_w a1 q s1, bd_w a3 q s3, mo_w a4 q s4, pg_w a5 q s5, pa_o p8 p9 s6, pa_r p9 q 10 AA s6.2, ps_w q 10 AA s6.2, pa_r s8 q 2 BB z7, ps_w q 2 BB z7].flatten, _, c2_X6_log (a1 := a1) (a2 := a2) (a3 := a3) (a4 := a4) (a5 := a5) (p8 := p8) (s8 := s8) (post := fun r => r = r6) (v6 _ rfl), rfl, ?_⟩
    rw [e2]
    have hp := bk_perm (L := cb_l q a0 a1 a2 a3 a4 a5 p8 s8 p9 AA BB s1 s2 s3 s4 s5 s6 z7) (L2 := [fo_w (a0 0) (a1 0) (a2 0) (a3 0) (a4 0) (a5 0) p8 s8, bd_w a2 q s2, tp_w a1 q s1, bd_w a3 q s3, mo_w a4 q s4, pg_w a5 q s5, pa_o p8 p9 s6, pa_r p9 q 10 AA s6.2, ps_w q 10 AA s6.2, pa_r s8 q 2 BB z7, ps_w q 2 BB z7]) [0, 2, 1, 3, 4, 5, 6, 7, 8, 9, 10] (show List.Perm _ (List.range 11) by decide) rfl rfl
    refine hp.trans ?_
    simp only [List.flatten_cons, List.flatten_nil, List.append_nil, List.append_assoc]
    exact List.Perm.refl _
  · exact ⟨_, [], _, c2_X7_log (post := fun r => r = r7) (v7 _ rfl), rfl, by rw [f2, List.append_nil]⟩
set_option maxHeartbeats 4000000 in
theorem pl_often {l : Launch} {D : va_G} {q : Nat → ClassId} {h h2 : Nat} {w w2 : va_W} {s1 : Tp} {s2 s3 : Bd} {s4 : Mo} {s5 : Pg} {s6 : Pa} {z7 : Nat → Option Bd} {m : Md} {N : Int} {x1 : Int32} {x2 : Int32} {x3 : Int32} (hW : c_W q h s1 s2 s3 s4 s5 s6 z7 w) (hV : m_W q h2 m w2) (hJ : JJ N s1 s2 s3 s4 s5 s6 z7 m) : ∃ (r6 r7 : Int32) (M : Int) (mn : Md), un_ri l D q 5 yX6_often cX6_often 4 (some .int) ({ frames := 2, cells := 0, slots := 0, locals := 52 } : Room) h [.int x1, .int x2, .int x3] w (fun r => r = r6) ∧ un_ri l D q 6 yX7_often cX7_often 6 (some .int) ({ frames := 2, cells := 0, slots := 0, locals := 46 } : Room) h2 [.int x1, .int x2, .int x3] w2 (fun r => r = r7) ∧ mn = m ∧ JJ M s1 s2 s3 s4 s5 s6 z7 mn := by
  obtain ⟨a0, a1, a2, a3, a4, a5, p8, s8, p9, AA, BB, e1, e2⟩ := hW
  obtain ⟨b, f1, f2⟩ := hV
  subst e1
  subst f1
  obtain ⟨r6, r7, M, mn, v6, v7, hn⟩ := pm_often (x1 := x1) (x2 := x2) (x3 := x3) hJ
  refine ⟨r6, r7, M, mn, ?_, ?_, hn⟩
  · refine ⟨_, [tp_w a1 q s1, bd_w a3 q s3, mo_w a4 q s4, pg_w a5 q s5, pa_o p8 p9 s6, pa_r p9 q 10 AA s6.2, ps_w q 10 AA s6.2, pa_r s8 q 2 BB z7, ps_w q 2 BB z7].flatten, _, c2_X6_often (a1 := a1) (a2 := a2) (a3 := a3) (a4 := a4) (a5 := a5) (p8 := p8) (s8 := s8) (post := fun r => r = r6) (v6 _ rfl), rfl, ?_⟩
    rw [e2]
    have hp := bk_perm (L := cb_l q a0 a1 a2 a3 a4 a5 p8 s8 p9 AA BB s1 s2 s3 s4 s5 s6 z7) (L2 := [fo_w (a0 0) (a1 0) (a2 0) (a3 0) (a4 0) (a5 0) p8 s8, bd_w a2 q s2, tp_w a1 q s1, bd_w a3 q s3, mo_w a4 q s4, pg_w a5 q s5, pa_o p8 p9 s6, pa_r p9 q 10 AA s6.2, ps_w q 10 AA s6.2, pa_r s8 q 2 BB z7, ps_w q 2 BB z7]) [0, 2, 1, 3, 4, 5, 6, 7, 8, 9, 10] (show List.Perm _ (List.range 11) by decide) rfl rfl
    refine hp.trans ?_
    simp only [List.flatten_cons, List.flatten_nil, List.append_nil, List.append_assoc]
    exact List.Perm.refl _
  · exact ⟨_, [], _, c2_X7_often (post := fun r => r = r7) (v7 _ rfl), rfl, by rw [f2, List.append_nil]⟩
set_option maxHeartbeats 4000000 in
theorem pl_usual {l : Launch} {D : va_G} {q : Nat → ClassId} {h h2 : Nat} {w w2 : va_W} {s1 : Tp} {s2 s3 : Bd} {s4 : Mo} {s5 : Pg} {s6 : Pa} {z7 : Nat → Option Bd} {m : Md} {N : Int} {x1 : Int32} {x2 : Int32} (hW : c_W q h s1 s2 s3 s4 s5 s6 z7 w) (hV : m_W q h2 m w2) (hJ : JJ N s1 s2 s3 s4 s5 s6 z7 m) : ∃ (r6 r7 : Int32) (M : Int) (mn : Md), un_ri l D q 5 yX6_usual cX6_usual 7 (some .int) ({ frames := 2, cells := 0, slots := 0, locals := 52 } : Room) h [.int x1, .int x2] w (fun r => r = r6) ∧ un_ri l D q 6 yX7_usual cX7_usual 6 (some .int) ({ frames := 3, cells := 0, slots := 0, locals := 71 } : Room) h2 [.int x1, .int x2] w2 (fun r => r = r7) ∧ mn = m ∧ JJ M s1 s2 s3 s4 s5 s6 z7 mn := by
  obtain ⟨a0, a1, a2, a3, a4, a5, p8, s8, p9, AA, BB, e1, e2⟩ := hW
  obtain ⟨b, f1, f2⟩ := hV
  subst e1
  subst f1
  obtain ⟨r6, r7, M, mn, v6, v7, hn⟩ := pm_usual (x1 := x1) (x2 := x2) hJ
  refine ⟨r6, r7, M, mn, ?_, ?_, hn⟩
  · refine ⟨_, [tp_w a1 q s1, bd_w a3 q s3, mo_w a4 q s4, pg_w a5 q s5, pa_o p8 p9 s6, pa_r p9 q 10 AA s6.2, ps_w q 10 AA s6.2, pa_r s8 q 2 BB z7, ps_w q 2 BB z7].flatten, _, c2_X6_usual (a1 := a1) (a2 := a2) (a3 := a3) (a4 := a4) (a5 := a5) (p8 := p8) (s8 := s8) (post := fun r => r = r6) (v6 _ rfl), rfl, ?_⟩
    rw [e2]
    have hp := bk_perm (L := cb_l q a0 a1 a2 a3 a4 a5 p8 s8 p9 AA BB s1 s2 s3 s4 s5 s6 z7) (L2 := [fo_w (a0 0) (a1 0) (a2 0) (a3 0) (a4 0) (a5 0) p8 s8, bd_w a2 q s2, tp_w a1 q s1, bd_w a3 q s3, mo_w a4 q s4, pg_w a5 q s5, pa_o p8 p9 s6, pa_r p9 q 10 AA s6.2, ps_w q 10 AA s6.2, pa_r s8 q 2 BB z7, ps_w q 2 BB z7]) [0, 2, 1, 3, 4, 5, 6, 7, 8, 9, 10] (show List.Perm _ (List.range 11) by decide) rfl rfl
    refine hp.trans ?_
    simp only [List.flatten_cons, List.flatten_nil, List.append_nil, List.append_assoc]
    exact List.Perm.refl _
  · exact ⟨_, [], _, c2_X7_usual (post := fun r => r = r7) (v7 _ rfl), rfl, by rw [f2, List.append_nil]⟩
set_option maxHeartbeats 4000000 in
theorem pl_better {l : Launch} {D : va_G} {q : Nat → ClassId} {h h2 : Nat} {w w2 : va_W} {s1 : Tp} {s2 s3 : Bd} {s4 : Mo} {s5 : Pg} {s6 : Pa} {z7 : Nat → Option Bd} {m : Md} {N : Int} {x1 : Int32} {x2 : Int32} (hW : c_W q h s1 s2 s3 s4 s5 s6 z7 w) (hV : m_W q h2 m w2) (hJ : JJ N s1 s2 s3 s4 s5 s6 z7 m) : ∃ (r6 r7 : Int32) (M : Int) (mn : Md), un_ri l D q 5 yX6_better cX6_better 10 (some .int) ({ frames := 2, cells := 0, slots := 0, locals := 55 } : Room) h [.int x1, .int x2] w (fun r => r = r6) ∧ un_ri l D q 6 yX7_better cX7_better 9 (some .int) ({ frames := 2, cells := 0, slots := 0, locals := 50 } : Room) h2 [.int x1, .int x2] w2 (fun r => r = r7) ∧ mn = m ∧ JJ M s1 s2 s3 s4 s5 s6 z7 mn := by
  obtain ⟨a0, a1, a2, a3, a4, a5, p8, s8, p9, AA, BB, e1, e2⟩ := hW
  obtain ⟨b, f1, f2⟩ := hV
  subst e1
  subst f1
  obtain ⟨r6, r7, M, mn, v6, v7, hn⟩ := pm_better (x1 := x1) (x2 := x2) hJ
  refine ⟨r6, r7, M, mn, ?_, ?_, hn⟩
  · refine ⟨_, [tp_w a1 q s1, bd_w a3 q s3, mo_w a4 q s4, pg_w a5 q s5, pa_o p8 p9 s6, pa_r p9 q 10 AA s6.2, ps_w q 10 AA s6.2, pa_r s8 q 2 BB z7, ps_w q 2 BB z7].flatten, _, c2_X6_better (a1 := a1) (a2 := a2) (a3 := a3) (a4 := a4) (a5 := a5) (p8 := p8) (s8 := s8) (post := fun r => r = r6) (v6 _ rfl), rfl, ?_⟩
    rw [e2]
    have hp := bk_perm (L := cb_l q a0 a1 a2 a3 a4 a5 p8 s8 p9 AA BB s1 s2 s3 s4 s5 s6 z7) (L2 := [fo_w (a0 0) (a1 0) (a2 0) (a3 0) (a4 0) (a5 0) p8 s8, bd_w a2 q s2, tp_w a1 q s1, bd_w a3 q s3, mo_w a4 q s4, pg_w a5 q s5, pa_o p8 p9 s6, pa_r p9 q 10 AA s6.2, ps_w q 10 AA s6.2, pa_r s8 q 2 BB z7, ps_w q 2 BB z7]) [0, 2, 1, 3, 4, 5, 6, 7, 8, 9, 10] (show List.Perm _ (List.range 11) by decide) rfl rfl
    refine hp.trans ?_
    simp only [List.flatten_cons, List.flatten_nil, List.append_nil, List.append_assoc]
    exact List.Perm.refl _
  · exact ⟨_, [], _, c2_X7_better (post := fun r => r = r7) (v7 _ rfl), rfl, by rw [f2, List.append_nil]⟩
set_option maxHeartbeats 4000000 in
theorem pl_farthest {l : Launch} {D : va_G} {q : Nat → ClassId} {h h2 : Nat} {w w2 : va_W} {s1 : Tp} {s2 s3 : Bd} {s4 : Mo} {s5 : Pg} {s6 : Pa} {z7 : Nat → Option Bd} {m : Md} {N : Int} {x1 : Int32} {x2 : Int32} (hW : c_W q h s1 s2 s3 s4 s5 s6 z7 w) (hV : m_W q h2 m w2) (hJ : JJ N s1 s2 s3 s4 s5 s6 z7 m) : ∃ (r6 r7 : Int32) (M : Int) (mn : Md), un_ri l D q 5 yX6_farthest cX6_farthest 8 (some .int) ({ frames := 2, cells := 0, slots := 0, locals := 44 } : Room) h [.int x1, .int x2] w (fun r => r = r6) ∧ un_ri l D q 6 yX7_farthest cX7_farthest 7 (some .int) ({ frames := 3, cells := 0, slots := 0, locals := 67 } : Room) h2 [.int x1, .int x2] w2 (fun r => r = r7) ∧ mn = m ∧ JJ M s1 s2 s3 s4 s5 s6 z7 mn := by
  obtain ⟨a0, a1, a2, a3, a4, a5, p8, s8, p9, AA, BB, e1, e2⟩ := hW
  obtain ⟨b, f1, f2⟩ := hV
  subst e1
  subst f1
  obtain ⟨r6, r7, M, mn, v6, v7, hn⟩ := pm_farthest (x1 := x1) (x2 := x2) hJ
  refine ⟨r6, r7, M, mn, ?_, ?_, hn⟩
  · refine ⟨_, [tp_w a1 q s1, bd_w a3 q s3, mo_w a4 q s4, pg_w a5 q s5, pa_o p8 p9 s6, pa_r p9 q 10 AA s6.2, ps_w q 10 AA s6.2, pa_r s8 q 2 BB z7, ps_w q 2 BB z7].flatten, _, c2_X6_farthest (a1 := a1) (a2 := a2) (a3 := a3) (a4 := a4) (a5 := a5) (p8 := p8) (s8 := s8) (post := fun r => r = r6) (v6 _ rfl), rfl, ?_⟩
    rw [e2]
    have hp := bk_perm (L := cb_l q a0 a1 a2 a3 a4 a5 p8 s8 p9 AA BB s1 s2 s3 s4 s5 s6 z7) (L2 := [fo_w (a0 0) (a1 0) (a2 0) (a3 0) (a4 0) (a5 0) p8 s8, bd_w a2 q s2, tp_w a1 q s1, bd_w a3 q s3, mo_w a4 q s4, pg_w a5 q s5, pa_o p8 p9 s6, pa_r p9 q 10 AA s6.2, ps_w q 10 AA s6.2, pa_r s8 q 2 BB z7, ps_w q 2 BB z7]) [0, 2, 1, 3, 4, 5, 6, 7, 8, 9, 10] (show List.Perm _ (List.range 11) by decide) rfl rfl
    refine hp.trans ?_
    simp only [List.flatten_cons, List.flatten_nil, List.append_nil, List.append_assoc]
    exact List.Perm.refl _
  · exact ⟨_, [], _, c2_X7_farthest (post := fun r => r = r7) (v7 _ rfl), rfl, by rw [f2, List.append_nil]⟩
set_option maxHeartbeats 4000000 in
theorem pl_lacks {l : Launch} {D : va_G} {q : Nat → ClassId} {h h2 : Nat} {w w2 : va_W} {s1 : Tp} {s2 s3 : Bd} {s4 : Mo} {s5 : Pg} {s6 : Pa} {z7 : Nat → Option Bd} {m : Md} {N : Int} {x1 : Int32} {x2 : Int32} (hW : c_W q h s1 s2 s3 s4 s5 s6 z7 w) (hV : m_W q h2 m w2) (hJ : JJ N s1 s2 s3 s4 s5 s6 z7 m) : ∃ (r6 r7 : Int32) (M : Int) (mn : Md), un_ri l D q 5 yX6_lacks cX6_lacks 3 (some .int) ({ frames := 5, cells := 0, slots := 0, locals := 115 } : Room) h [.int x1, .int x2] w (fun r => r = r6) ∧ un_ri l D q 6 yX7_lacks cX7_lacks 6 (some .int) ({ frames := 3, cells := 0, slots := 0, locals := 69 } : Room) h2 [.int x1, .int x2] w2 (fun r => r = r7) ∧ mn = m ∧ JJ M s1 s2 s3 s4 s5 s6 z7 mn := by
  obtain ⟨a0, a1, a2, a3, a4, a5, p8, s8, p9, AA, BB, e1, e2⟩ := hW
  obtain ⟨b, f1, f2⟩ := hV
  subst e1
  subst f1
  obtain ⟨r6, r7, M, mn, v6, v7, hn⟩ := pm_lacks (x1 := x1) (x2 := x2) hJ
  refine ⟨r6, r7, M, mn, ?_, ?_, hn⟩
  · refine ⟨_, [tp_w a1 q s1, bd_w a3 q s3, mo_w a4 q s4, pg_w a5 q s5, pa_o p8 p9 s6, pa_r p9 q 10 AA s6.2, ps_w q 10 AA s6.2, pa_r s8 q 2 BB z7, ps_w q 2 BB z7].flatten, _, c2_X6_lacks (a1 := a1) (a2 := a2) (a3 := a3) (a4 := a4) (a5 := a5) (p8 := p8) (s8 := s8) (post := fun r => r = r6) (v6 _ rfl), rfl, ?_⟩
    rw [e2]
    have hp := bk_perm (L := cb_l q a0 a1 a2 a3 a4 a5 p8 s8 p9 AA BB s1 s2 s3 s4 s5 s6 z7) (L2 := [fo_w (a0 0) (a1 0) (a2 0) (a3 0) (a4 0) (a5 0) p8 s8, bd_w a2 q s2, tp_w a1 q s1, bd_w a3 q s3, mo_w a4 q s4, pg_w a5 q s5, pa_o p8 p9 s6, pa_r p9 q 10 AA s6.2, ps_w q 10 AA s6.2, pa_r s8 q 2 BB z7, ps_w q 2 BB z7]) [0, 2, 1, 3, 4, 5, 6, 7, 8, 9, 10] (show List.Perm _ (List.range 11) by decide) rfl rfl
    refine hp.trans ?_
    simp only [List.flatten_cons, List.flatten_nil, List.append_nil, List.append_assoc]
    exact List.Perm.refl _
  · exact ⟨_, [], _, c2_X7_lacks (post := fun r => r = r7) (v7 _ rfl), rfl, by rw [f2, List.append_nil]⟩
set_option maxHeartbeats 4000000 in
theorem pl_rests {l : Launch} {D : va_G} {q : Nat → ClassId} {h h2 : Nat} {w w2 : va_W} {s1 : Tp} {s2 s3 : Bd} {s4 : Mo} {s5 : Pg} {s6 : Pa} {z7 : Nat → Option Bd} {m : Md} {N : Int} {x1 : Int32} (hW : c_W q h s1 s2 s3 s4 s5 s6 z7 w) (hV : m_W q h2 m w2) (hJ : JJ N s1 s2 s3 s4 s5 s6 z7 m) : ∃ (r6 r7 : Int32) (M : Int) (s3n : Bd) (s4n : Mo) (mn : Md), un_i l D q 5 yX6_rests cX6_rests 3 (some .int) ({ frames := 4, cells := 0, slots := 0, locals := 114 } : Room) h [.int x1] 0 0 w (fun r w3 => r = r6 ∧ c_W q h s1 s2 s3n s4n s5 s6 z7 w3) ∧ un_i l D q 6 yX7_rests cX7_rests 4 (some .int) ({ frames := 5, cells := 0, slots := 0, locals := 110 } : Room) h2 [.int x1] 0 0 w2 (fun r w3 => r = r7 ∧ m_W q h2 mn w3) ∧ JJ M s1 s2 s3n s4n s5 s6 z7 mn := by
  obtain ⟨a0, a1, a2, a3, a4, a5, p8, s8, p9, AA, BB, e1, e2⟩ := hW
  obtain ⟨b, f1, f2⟩ := hV
  subst e1
  subst f1
  obtain ⟨r6, r7, M, s3n, s4n, mn, v6, v7, hn⟩ := pm_rests (x1 := x1) hJ
  refine ⟨r6, r7, M, s3n, s4n, mn, ?_, ?_, hn⟩
  · intro sz
    refine ⟨_, _, [tp_w a1 q s1, pg_w a5 q s5, pa_o p8 p9 s6, pa_r p9 q 10 AA s6.2, ps_w q 10 AA s6.2, pa_r s8 q 2 BB z7, ps_w q 2 BB z7].flatten, _, _, _, c2_X6_rests (a1 := a1) (a2 := a2) (a3 := a3) (a4 := a4) (a5 := a5) (p8 := p8) (s8 := s8) (post := fun r y_s3 y_s4 => r = r6 ∧ y_s3 = s3n ∧ y_s4 = s4n) (v6 _ ⟨rfl, rfl, rfl⟩), rfl, ?_, fun r u hu => ?_⟩
    · rw [e2]
      have hp := bk_perm (L := cb_l q a0 a1 a2 a3 a4 a5 p8 s8 p9 AA BB s1 s2 s3 s4 s5 s6 z7) (L2 := [fo_w (a0 0) (a1 0) (a2 0) (a3 0) (a4 0) (a5 0) p8 s8, bd_w a2 q s2, bd_w a3 q s3, mo_w a4 q s4, tp_w a1 q s1, pg_w a5 q s5, pa_o p8 p9 s6, pa_r p9 q 10 AA s6.2, ps_w q 10 AA s6.2, pa_r s8 q 2 BB z7, ps_w q 2 BB z7]) [0, 2, 3, 4, 1, 5, 6, 7, 8, 9, 10] (show List.Perm _ (List.range 11) by decide) rfl rfl
      refine hp.trans ?_
      simp only [List.flatten_cons, List.flatten_nil, List.append_nil, List.append_assoc]
      exact List.Perm.refl _
    · obtain ⟨hr, g_s3, g_s4⟩ := hu
      refine ⟨_, ⟨hr, a0, a1, a2, a3, a4, a5, p8, s8, p9, AA, BB, rfl, rfl⟩, ?_⟩
      rw [← g_s3, ← g_s4]
      have hp := bk_perm (L := cb_l q a0 a1 a2 a3 a4 a5 p8 s8 p9 AA BB s1 s2 u.1 u.2 s5 s6 z7) (L2 := [fo_w (a0 0) (a1 0) (a2 0) (a3 0) (a4 0) (a5 0) p8 s8, bd_w a2 q s2, bd_w a3 q u.1, mo_w a4 q u.2, tp_w a1 q s1, pg_w a5 q s5, pa_o p8 p9 s6, pa_r p9 q 10 AA s6.2, ps_w q 10 AA s6.2, pa_r s8 q 2 BB z7, ps_w q 2 BB z7]) [0, 2, 3, 4, 1, 5, 6, 7, 8, 9, 10] (show List.Perm _ (List.range 11) by decide) rfl rfl
      refine List.Perm.symm (hp.trans ?_)
      simp only [List.flatten_cons, List.flatten_nil, List.append_nil, List.append_assoc]
      exact List.Perm.refl _
  · intro sz
    refine ⟨_, _, [], _, _, _, c2_X7_rests (post := fun r u => r = r7 ∧ u = mn) (v7 _ ⟨rfl, rfl⟩), rfl, by rw [f2, List.append_nil], fun r u hu => ?_⟩
    exact ⟨_, ⟨hu.1, b, rfl, rfl⟩, by rw [List.append_nil, hu.2]⟩
set_option maxHeartbeats 4000000 in
theorem pl_unlike {l : Launch} {D : va_G} {q : Nat → ClassId} {h h2 : Nat} {w w2 : va_W} {s1 : Tp} {s2 s3 : Bd} {s4 : Mo} {s5 : Pg} {s6 : Pa} {z7 : Nat → Option Bd} {m : Md} {N : Int} {x1 : Int32} {x2 : Int32} (hW : c_W q h s1 s2 s3 s4 s5 s6 z7 w) (hV : m_W q h2 m w2) (hJ : JJ N s1 s2 s3 s4 s5 s6 z7 m) : ∃ (r6 r7 : Int32) (M : Int) (mn : Md), un_ri l D q 5 yX6_unlike cX6_unlike 7 (some .int) ({ frames := 3, cells := 0, slots := 0, locals := 65 } : Room) h [.int x1, .int x2] w (fun r => r = r6) ∧ un_ri l D q 6 yX7_unlike cX7_unlike 5 (some .int) ({ frames := 2, cells := 0, slots := 0, locals := 46 } : Room) h2 [.int x1, .int x2] w2 (fun r => r = r7) ∧ mn = m ∧ JJ M s1 s2 s3 s4 s5 s6 z7 mn := by
  obtain ⟨a0, a1, a2, a3, a4, a5, p8, s8, p9, AA, BB, e1, e2⟩ := hW
  obtain ⟨b, f1, f2⟩ := hV
  subst e1
  subst f1
  obtain ⟨r6, r7, M, mn, v6, v7, hn⟩ := pm_unlike (x1 := x1) (x2 := x2) hJ
  refine ⟨r6, r7, M, mn, ?_, ?_, hn⟩
  · refine ⟨_, [tp_w a1 q s1, bd_w a3 q s3, mo_w a4 q s4, pg_w a5 q s5, pa_o p8 p9 s6, pa_r p9 q 10 AA s6.2, ps_w q 10 AA s6.2, pa_r s8 q 2 BB z7, ps_w q 2 BB z7].flatten, _, c2_X6_unlike (a1 := a1) (a2 := a2) (a3 := a3) (a4 := a4) (a5 := a5) (p8 := p8) (s8 := s8) (post := fun r => r = r6) (v6 _ rfl), rfl, ?_⟩
    rw [e2]
    have hp := bk_perm (L := cb_l q a0 a1 a2 a3 a4 a5 p8 s8 p9 AA BB s1 s2 s3 s4 s5 s6 z7) (L2 := [fo_w (a0 0) (a1 0) (a2 0) (a3 0) (a4 0) (a5 0) p8 s8, bd_w a2 q s2, tp_w a1 q s1, bd_w a3 q s3, mo_w a4 q s4, pg_w a5 q s5, pa_o p8 p9 s6, pa_r p9 q 10 AA s6.2, ps_w q 10 AA s6.2, pa_r s8 q 2 BB z7, ps_w q 2 BB z7]) [0, 2, 1, 3, 4, 5, 6, 7, 8, 9, 10] (show List.Perm _ (List.range 11) by decide) rfl rfl
    refine hp.trans ?_
    simp only [List.flatten_cons, List.flatten_nil, List.append_nil, List.append_assoc]
    exact List.Perm.refl _
  · exact ⟨_, [], _, c2_X7_unlike (post := fun r => r = r7) (v7 _ rfl), rfl, by rw [f2, List.append_nil]⟩
set_option maxHeartbeats 4000000 in
theorem pl_letter {l : Launch} {D : va_G} {q : Nat → ClassId} {h h2 : Nat} {w w2 : va_W} {s1 : Tp} {s2 s3 : Bd} {s4 : Mo} {s5 : Pg} {s6 : Pa} {z7 : Nat → Option Bd} {m : Md} {N : Int} {x1 : Int32} {x2 : Int32} (hW : c_W q h s1 s2 s3 s4 s5 s6 z7 w) (hV : m_W q h2 m w2) (hJ : JJ N s1 s2 s3 s4 s5 s6 z7 m) : ∃ (r6 r7 : Int32) (M : Int) (mn : Md), un_ri l D q 5 yX6_letter cX6_letter 6 (some .int) ({ frames := 2, cells := 0, slots := 0, locals := 44 } : Room) h [.int x1, .int x2] w (fun r => r = r6) ∧ un_ri l D q 6 yX7_letter cX7_letter 5 (some .int) ({ frames := 2, cells := 0, slots := 0, locals := 44 } : Room) h2 [.int x1, .int x2] w2 (fun r => r = r7) ∧ mn = m ∧ JJ M s1 s2 s3 s4 s5 s6 z7 mn := by
  obtain ⟨a0, a1, a2, a3, a4, a5, p8, s8, p9, AA, BB, e1, e2⟩ := hW
  obtain ⟨b, f1, f2⟩ := hV
  subst e1
  subst f1
  obtain ⟨r6, r7, M, mn, v6, v7, hn⟩ := pm_letter (x1 := x1) (x2 := x2) hJ
  refine ⟨r6, r7, M, mn, ?_, ?_, hn⟩
  · refine ⟨_, [tp_w a1 q s1, bd_w a3 q s3, mo_w a4 q s4, pg_w a5 q s5, pa_o p8 p9 s6, pa_r p9 q 10 AA s6.2, ps_w q 10 AA s6.2, pa_r s8 q 2 BB z7, ps_w q 2 BB z7].flatten, _, c2_X6_letter (a1 := a1) (a2 := a2) (a3 := a3) (a4 := a4) (a5 := a5) (p8 := p8) (s8 := s8) (post := fun r => r = r6) (v6 _ rfl), rfl, ?_⟩
    rw [e2]
    have hp := bk_perm (L := cb_l q a0 a1 a2 a3 a4 a5 p8 s8 p9 AA BB s1 s2 s3 s4 s5 s6 z7) (L2 := [fo_w (a0 0) (a1 0) (a2 0) (a3 0) (a4 0) (a5 0) p8 s8, bd_w a2 q s2, tp_w a1 q s1, bd_w a3 q s3, mo_w a4 q s4, pg_w a5 q s5, pa_o p8 p9 s6, pa_r p9 q 10 AA s6.2, ps_w q 10 AA s6.2, pa_r s8 q 2 BB z7, ps_w q 2 BB z7]) [0, 2, 1, 3, 4, 5, 6, 7, 8, 9, 10] (show List.Perm _ (List.range 11) by decide) rfl rfl
    refine hp.trans ?_
    simp only [List.flatten_cons, List.flatten_nil, List.append_nil, List.append_assoc]
    exact List.Perm.refl _
  · exact ⟨_, [], _, c2_X7_letter (post := fun r => r = r7) (v7 _ rfl), rfl, by rw [f2, List.append_nil]⟩
set_option maxHeartbeats 4000000 in
theorem pl_digest {l : Launch} {D : va_G} {q : Nat → ClassId} {h h2 : Nat} {w w2 : va_W} {s1 : Tp} {s2 s3 : Bd} {s4 : Mo} {s5 : Pg} {s6 : Pa} {z7 : Nat → Option Bd} {m : Md} {N : Int}  (hW : c_W q h s1 s2 s3 s4 s5 s6 z7 w) (hV : m_W q h2 m w2) (hJ : JJ N s1 s2 s3 s4 s5 s6 z7 m) : ∃ (r6 r7 : Int64) (M : Int) (mn : Md), un_rl l D q 5 yX6_digest cX6_digest 4 (some .long) ({ frames := 1, cells := 0, slots := 0, locals := 20 } : Room) h [] w (fun r => r = r6) ∧ un_rl l D q 6 yX7_digest cX7_digest 5 (some .long) ({ frames := 2, cells := 0, slots := 0, locals := 40 } : Room) h2 [] w2 (fun r => r = r7) ∧ mn = m ∧ JJ M s1 s2 s3 s4 s5 s6 z7 mn := by
  obtain ⟨a0, a1, a2, a3, a4, a5, p8, s8, p9, AA, BB, e1, e2⟩ := hW
  obtain ⟨b, f1, f2⟩ := hV
  subst e1
  subst f1
  obtain ⟨r6, r7, M, mn, v6, v7, hn⟩ := pm_digest  hJ
  refine ⟨r6, r7, M, mn, ?_, ?_, hn⟩
  · refine ⟨_, [tp_w a1 q s1, bd_w a3 q s3, mo_w a4 q s4, pg_w a5 q s5, pa_o p8 p9 s6, pa_r p9 q 10 AA s6.2, ps_w q 10 AA s6.2, pa_r s8 q 2 BB z7, ps_w q 2 BB z7].flatten, _, c2_X6_digest (a1 := a1) (a2 := a2) (a3 := a3) (a4 := a4) (a5 := a5) (p8 := p8) (s8 := s8) (post := fun r => r = r6) (v6 _ rfl), rfl, ?_⟩
    rw [e2]
    have hp := bk_perm (L := cb_l q a0 a1 a2 a3 a4 a5 p8 s8 p9 AA BB s1 s2 s3 s4 s5 s6 z7) (L2 := [fo_w (a0 0) (a1 0) (a2 0) (a3 0) (a4 0) (a5 0) p8 s8, bd_w a2 q s2, tp_w a1 q s1, bd_w a3 q s3, mo_w a4 q s4, pg_w a5 q s5, pa_o p8 p9 s6, pa_r p9 q 10 AA s6.2, ps_w q 10 AA s6.2, pa_r s8 q 2 BB z7, ps_w q 2 BB z7]) [0, 2, 1, 3, 4, 5, 6, 7, 8, 9, 10] (show List.Perm _ (List.range 11) by decide) rfl rfl
    refine hp.trans ?_
    simp only [List.flatten_cons, List.flatten_nil, List.append_nil, List.append_assoc]
    exact List.Perm.refl _
  · exact ⟨_, [], _, c2_X7_digest (post := fun r => r = r7) (v7 _ rfl), rfl, by rw [f2, List.append_nil]⟩
set_option maxHeartbeats 4000000 in
theorem pl_count {l : Launch} {D : va_G} {q : Nat → ClassId} {h h2 : Nat} {w w2 : va_W} {s1 : Tp} {s2 s3 : Bd} {s4 : Mo} {s5 : Pg} {s6 : Pa} {z7 : Nat → Option Bd} {m : Md} {N : Int} {x1 : Int32} (hW : c_W q h s1 s2 s3 s4 s5 s6 z7 w) (hV : m_W q h2 m w2) (hJ : JJ N s1 s2 s3 s4 s5 s6 z7 m) : ∃ (r6 r7 : Int32) (M : Int) (s4n : Mo) (s6n : Pa) (mn : Md), un_i l D q 5 yX6_count cX6_count 2 (some .int) ({ frames := 3, cells := 0, slots := 0, locals := 90 } : Room) h [.int x1] 0 0 w (fun r w3 => r = r6 ∧ c_W q h s1 s2 s3 s4n s5 s6n z7 w3) ∧ un_i l D q 6 yX7_count cX7_count 2 (some .int) ({ frames := 4, cells := 0, slots := 0, locals := 89 } : Room) h2 [.int x1] 0 0 w2 (fun r w3 => r = r7 ∧ m_W q h2 mn w3) ∧ s6n.2 = s6.2 ∧ JJ M s1 s2 s3 s4n s5 s6n z7 mn := by
  obtain ⟨a0, a1, a2, a3, a4, a5, p8, s8, p9, AA, BB, e1, e2⟩ := hW
  obtain ⟨b, f1, f2⟩ := hV
  subst e1
  subst f1
  obtain ⟨r6, r7, M, s4n, s6n, mn, v6, v7, hn⟩ := pm_count (x1 := x1) hJ
  refine ⟨r6, r7, M, s4n, s6n, mn, ?_, ?_, hn⟩
  · intro sz
    refine ⟨_, _, [bd_w a3 q s3, pg_w a5 q s5, pa_r p9 q 10 AA s6.2, ps_w q 10 AA s6.2, ps_w q 2 BB z7].flatten, _, _, _, c2_X6_count (a1 := a1) (a2 := a2) (a3 := a3) (a4 := a4) (a5 := a5) (p8 := p8) (s8 := s8) (p9 := p9) (z7 := z7) (AA := BB) (post := fun r y_s4 y_s6 => r = r6 ∧ y_s4 = s4n ∧ y_s6 = s6n) (v6 _ ⟨rfl, rfl, rfl⟩), rfl, ?_, fun r u hu => ?_⟩
    · rw [e2]
      have hp := bk_perm (L := cb_l q a0 a1 a2 a3 a4 a5 p8 s8 p9 AA BB s1 s2 s3 s4 s5 s6 z7) (L2 := [fo_w (a0 0) (a1 0) (a2 0) (a3 0) (a4 0) (a5 0) p8 s8, tp_w a1 q s1, bd_w a2 q s2, mo_w a4 q s4, pa_o p8 p9 s6, pa_r s8 q 2 BB z7, bd_w a3 q s3, pg_w a5 q s5, pa_r p9 q 10 AA s6.2, ps_w q 10 AA s6.2, ps_w q 2 BB z7]) [0, 1, 2, 4, 6, 9, 3, 5, 7, 8, 10] (show List.Perm _ (List.range 11) by decide) rfl rfl
      refine hp.trans ?_
      simp only [List.flatten_cons, List.flatten_nil, List.append_nil, List.append_assoc]
      exact List.Perm.refl _
    · obtain ⟨hr, g_s4, g_s6⟩ := hu
      refine ⟨_, ⟨hr, a0, a1, a2, a3, a4, a5, p8, s8, p9, AA, BB, rfl, rfl⟩, ?_⟩
      rw [← g_s4, ← g_s6]
      have hp := bk_perm (L := cb_l q a0 a1 a2 a3 a4 a5 p8 s8 p9 AA BB s1 s2 s3 u.1 s5 u.2 z7) (L2 := [fo_w (a0 0) (a1 0) (a2 0) (a3 0) (a4 0) (a5 0) p8 s8, tp_w a1 q s1, bd_w a2 q s2, mo_w a4 q u.1, pa_o p8 p9 u.2, pa_r s8 q 2 BB z7, bd_w a3 q s3, pg_w a5 q s5, pa_r p9 q 10 AA u.2.2, ps_w q 10 AA u.2.2, ps_w q 2 BB z7]) [0, 1, 2, 4, 6, 9, 3, 5, 7, 8, 10] (show List.Perm _ (List.range 11) by decide) rfl rfl
      refine List.Perm.symm (hp.trans ?_)
      simp only [List.flatten_cons, List.flatten_nil, List.append_nil, List.append_assoc]
      rw [show u.2.2 = s6.2 from (congrArg Prod.snd g_s6).trans hn.1]
  · intro sz
    refine ⟨_, _, [], _, _, _, c2_X7_count (post := fun r u => r = r7 ∧ u = mn) (v7 _ ⟨rfl, rfl⟩), rfl, by rw [f2, List.append_nil], fun r u hu => ?_⟩
    exact ⟨_, ⟨hu.1, b, rfl, rfl⟩, by rw [List.append_nil, hu.2]⟩
