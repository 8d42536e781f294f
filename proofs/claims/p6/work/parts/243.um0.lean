theorem um_feed {l : Launch} {D : va_G} {q : Nat → ClassId} {h : Nat} {w : va_W} {N : Int} {x1 x2 x3 x4 x5 : Int32} (hI : c_I N q h w) : un_i l D q 5 yX6_feed cX6_feed 6 (some .int) ({ frames := 1, cells := 0, slots := 0, locals := 22 } : Room) h [.int x1, .int x2, .int x3, .int x4, .int x5] 0 0 w (fun r w3 => ∃ M, c_I M q h w3 ∧ ((r.toInt = M ∧ M = N + 20 ∧ N + 20 ≤ 400) ∨ (r.toInt = -1 ∧ M = N ∧ 400 < N + 20))) := by
  intro sz
  obtain ⟨a0, a1, a2, a3, a4, a5, p8, s8, p9, AA, BB, s1, s2, s3, s4, s5, s6, z7, e1, e2, k1, ⟨R, W, k2⟩, ⟨R3, W3, k3⟩, k4, k5, k6, k7⟩ := hI
  subst e1
  refine ⟨_, _, [bd_w a2 q s2, bd_w a3 q s3, mo_w a4 q s4, pg_w a5 q s5, pa_o p8 p9 s6, pa_r p9 q 10 AA s6.2, ps_w q 10 AA s6.2, pa_r s8 q 2 BB z7, ps_w q 2 BB z7].flatten, _, _, _, c2_X6_feed (a1 := a1) (a2 := a2) (a3 := a3) (a4 := a4) (a5 := a5) (p8 := p8) (s8 := s8) (post := fun r u => (∃ M, tz M u ∧ ((r.toInt = M ∧ M = N + 20 ∧ N + 20 ≤ 400) ∨ (r.toInt = -1 ∧ M = N ∧ 400 < N + 20)))) (wq_X6_feed k1 (fun r u M b0 b1 => ⟨M, b0, b1⟩)), rfl, ?_, fun r u hu => ?_⟩
  · rw [e2]
    have hp := bk_perm (L := cb_l q a0 a1 a2 a3 a4 a5 p8 s8 p9 AA BB s1 s2 s3 s4 s5 s6 z7) (L2 := [fo_w (a0 0) (a1 0) (a2 0) (a3 0) (a4 0) (a5 0) p8 s8, tp_w a1 q s1, bd_w a2 q s2, bd_w a3 q s3, mo_w a4 q s4, pg_w a5 q s5, pa_o p8 p9 s6, pa_r p9 q 10 AA s6.2, ps_w q 10 AA s6.2, pa_r s8 q 2 BB z7, ps_w q 2 BB z7]) [0, 1, 2, 3, 4, 5, 6, 7, 8, 9, 10] (show List.Perm _ (List.range 11) by decide) rfl rfl
    refine hp.trans ?_
    simp only [List.flatten_cons, List.flatten_nil, List.append_nil, List.append_assoc]
    exact List.Perm.refl _
  · have g0 := hu
    obtain ⟨M, gT, gR⟩ := g0
    refine ⟨_, ⟨M, ⟨a0, a1, a2, a3, a4, a5, p8, s8, p9, AA, BB, u, s2, s3, s4, s5, s6, z7, rfl, rfl, gT, ⟨R, W, k2⟩, ⟨R3, W3, k3⟩, k4, k5, k6, k7⟩, gR⟩, ?_⟩
    have hp := bk_perm (L := cb_l q a0 a1 a2 a3 a4 a5 p8 s8 p9 AA BB u s2 s3 s4 s5 s6 z7) (L2 := [fo_w (a0 0) (a1 0) (a2 0) (a3 0) (a4 0) (a5 0) p8 s8, tp_w a1 q u, bd_w a2 q s2, bd_w a3 q s3, mo_w a4 q s4, pg_w a5 q s5, pa_o p8 p9 s6, pa_r p9 q 10 AA s6.2, ps_w q 10 AA s6.2, pa_r s8 q 2 BB z7, ps_w q 2 BB z7]) [0, 1, 2, 3, 4, 5, 6, 7, 8, 9, 10] (show List.Perm _ (List.range 11) by decide) rfl rfl
    refine List.Perm.symm (hp.trans ?_)
    simp only [List.flatten_cons, List.flatten_nil, List.append_nil, List.append_assoc]
    exact List.Perm.refl _
theorem um_end {l : Launch} {D : va_G} {q : Nat → ClassId} {h : Nat} {w : va_W} {N : Int} {x1 : Int32} (hI : c_I N q h w) : un_i l D q 5 yX6_end cX6_end 2 (some .int) ({ frames := 0, cells := 0, slots := 0, locals := 0 } : Room) h [.int x1] 0 0 w (fun r w3 => ∃ M, c_I M q h w3 ∧ ((r.toInt = x1.toInt ∧ M = x1.toInt ∧ 0 ≤ x1.toInt ∧ x1.toInt ≤ N) ∨ (r.toInt = -1 ∧ M = N ∧ (x1.toInt < 0 ∨ N < x1.toInt)))) := by
  intro sz
  obtain ⟨a0, a1, a2, a3, a4, a5, p8, s8, p9, AA, BB, s1, s2, s3, s4, s5, s6, z7, e1, e2, k1, ⟨R, W, k2⟩, ⟨R3, W3, k3⟩, k4, k5, k6, k7⟩ := hI
  subst e1
  refine ⟨_, _, [bd_w a2 q s2, bd_w a3 q s3, mo_w a4 q s4, pg_w a5 q s5, pa_o p8 p9 s6, pa_r p9 q 10 AA s6.2, ps_w q 10 AA s6.2, pa_r s8 q 2 BB z7, ps_w q 2 BB z7].flatten, _, _, _, c2_X6_end (a1 := a1) (a2 := a2) (a3 := a3) (a4 := a4) (a5 := a5) (p8 := p8) (s8 := s8) (post := fun r u => (∃ M, tz M u ∧ ((r.toInt = x1.toInt ∧ M = x1.toInt ∧ 0 ≤ x1.toInt ∧ x1.toInt ≤ N) ∨ (r.toInt = -1 ∧ M = N ∧ (x1.toInt < 0 ∨ N < x1.toInt))))) (wq_X6_end k1 (fun r u M b0 b1 => ⟨M, b0, b1⟩)), rfl, ?_, fun r u hu => ?_⟩
  · rw [e2]
    have hp := bk_perm (L := cb_l q a0 a1 a2 a3 a4 a5 p8 s8 p9 AA BB s1 s2 s3 s4 s5 s6 z7) (L2 := [fo_w (a0 0) (a1 0) (a2 0) (a3 0) (a4 0) (a5 0) p8 s8, tp_w a1 q s1, bd_w a2 q s2, bd_w a3 q s3, mo_w a4 q s4, pg_w a5 q s5, pa_o p8 p9 s6, pa_r p9 q 10 AA s6.2, ps_w q 10 AA s6.2, pa_r s8 q 2 BB z7, ps_w q 2 BB z7]) [0, 1, 2, 3, 4, 5, 6, 7, 8, 9, 10] (show List.Perm _ (List.range 11) by decide) rfl rfl
    refine hp.trans ?_
    simp only [List.flatten_cons, List.flatten_nil, List.append_nil, List.append_assoc]
    exact List.Perm.refl _
  · have g0 := hu
    obtain ⟨M, gT, gR⟩ := g0
    refine ⟨_, ⟨M, ⟨a0, a1, a2, a3, a4, a5, p8, s8, p9, AA, BB, u, s2, s3, s4, s5, s6, z7, rfl, rfl, gT, ⟨R, W, k2⟩, ⟨R3, W3, k3⟩, k4, k5, k6, k7⟩, gR⟩, ?_⟩
    have hp := bk_perm (L := cb_l q a0 a1 a2 a3 a4 a5 p8 s8 p9 AA BB u s2 s3 s4 s5 s6 z7) (L2 := [fo_w (a0 0) (a1 0) (a2 0) (a3 0) (a4 0) (a5 0) p8 s8, tp_w a1 q u, bd_w a2 q s2, bd_w a3 q s3, mo_w a4 q s4, pg_w a5 q s5, pa_o p8 p9 s6, pa_r p9 q 10 AA s6.2, ps_w q 10 AA s6.2, pa_r s8 q 2 BB z7, ps_w q 2 BB z7]) [0, 1, 2, 3, 4, 5, 6, 7, 8, 9, 10] (show List.Perm _ (List.range 11) by decide) rfl rfl
    refine List.Perm.symm (hp.trans ?_)
    simp only [List.flatten_cons, List.flatten_nil, List.append_nil, List.append_assoc]
    exact List.Perm.refl _
theorem um_tell {l : Launch} {D : va_G} {q : Nat → ClassId} {h : Nat} {w : va_W} {N : Int} (hI : c_I N q h w) : un_i l D q 5 yX6_tell cX6_tell 1 (some .int) ({ frames := 10, cells := 1, slots := 6400, locals := 215 } : Room) h [] 1 6400 w (fun r w3 => ∃ M, c_I M q h w3 ∧ M = 0) := by
  intro sz
  obtain ⟨a0, a1, a2, a3, a4, a5, p8, s8, p9, AA, BB, s1, s2, s3, s4, s5, s6, z7, e1, e2, k1, ⟨R, W, k2⟩, ⟨R3, W3, k3⟩, k4, k5, k6, k7⟩ := hI
  subst e1
  refine ⟨_, _, [mo_w a4 q s4, pg_w a5 q s5, pa_r p9 q 10 AA s6.2, ps_w q 10 AA s6.2, pa_r s8 q 2 BB z7, ps_w q 2 BB z7].flatten, _, _, _, c2_X6_tell (a1 := a1) (a2 := a2) (a3 := a3) (a4 := a4) (a5 := a5) (p8 := p8) (s8 := s8) (p9 := p9) (AA := AA) (post := fun r ua ub uc ud => (∃ M, tz M ua ∧ M = 0) ∧ bx ub ∧ bx uc ∧ (pa ud ∧ ud.2 = s6.2)) (wq_X6_tell k1 k2 k3 k6 (fun r ua ub uc ud R4 W4 R5 W5 b0 b1 b2 b3 b4 => ⟨⟨0, b0, rfl⟩, ⟨R4, W4, b1⟩, ⟨R5, W5, b2⟩, ⟨b3, b4⟩⟩)), rfl, ?_, fun r u hu => ?_⟩
  · rw [e2]
    have hp := bk_perm (L := cb_l q a0 a1 a2 a3 a4 a5 p8 s8 p9 AA BB s1 s2 s3 s4 s5 s6 z7) (L2 := [fo_w (a0 0) (a1 0) (a2 0) (a3 0) (a4 0) (a5 0) p8 s8, tp_w a1 q s1, bd_w a2 q s2, bd_w a3 q s3, pa_o p8 p9 s6, mo_w a4 q s4, pg_w a5 q s5, pa_r p9 q 10 AA s6.2, ps_w q 10 AA s6.2, pa_r s8 q 2 BB z7, ps_w q 2 BB z7]) [0, 1, 2, 3, 6, 4, 5, 7, 8, 9, 10] (show List.Perm _ (List.range 11) by decide) rfl rfl
    refine hp.trans ?_
    simp only [List.flatten_cons, List.flatten_nil, List.append_nil, List.append_assoc]
    exact List.Perm.refl _
  · obtain ⟨g0, g1, g2, g3⟩ := hu
    obtain ⟨M, gT, gR⟩ := g0
    refine ⟨_, ⟨M, ⟨a0, a1, (va_up a2 12 u.1), a3, a4, a5, p8, s8, p9, AA, BB, u.2.1, u.2.2.1, u.2.2.2.1, s4, s5, u.2.2.2.2, z7, rfl, rfl, gT, g1, g2, k4, k5, g3.1, k7⟩, gR⟩, ?_⟩
    have hp := bk_perm (L := cb_l q a0 a1 (va_up a2 12 u.1) a3 a4 a5 p8 s8 p9 AA BB u.2.1 u.2.2.1 u.2.2.2.1 s4 s5 u.2.2.2.2 z7) (L2 := [fo_w (a0 0) (a1 0) (a2 0) (a3 0) (a4 0) (a5 0) p8 s8, tp_w a1 q u.2.1, bd_w (va_up a2 12 u.1) q u.2.2.1, bd_w a3 q u.2.2.2.1, pa_o p8 p9 u.2.2.2.2, mo_w a4 q s4, pg_w a5 q s5, pa_r p9 q 10 AA u.2.2.2.2.2, ps_w q 10 AA u.2.2.2.2.2, pa_r s8 q 2 BB z7, ps_w q 2 BB z7]) [0, 1, 2, 3, 6, 4, 5, 7, 8, 9, 10] (show List.Perm _ (List.range 11) by decide) rfl rfl
    refine List.Perm.symm (hp.trans ?_)
    simp only [List.flatten_cons, List.flatten_nil, List.append_nil, List.append_assoc]
    rw [g3.2]
theorem um_row {l : Launch} {D : va_G} {q : Nat → ClassId} {h : Nat} {w : va_W} {N : Int} {x1 : Int32} (hI : c_I N q h w) : un_i l D q 5 yX6_row cX6_row 3 (some .int) ({ frames := 4, cells := 14, slots := 6906, locals := 146 } : Room) h [.int x1] 14 6906 w (fun r w3 => ∃ M, c_I M q h w3 ∧ M = 0) := by
  intro sz
  obtain ⟨a0, a1, a2, a3, a4, a5, p8, s8, p9, AA, BB, s1, s2, s3, s4, s5, s6, z7, e1, e2, k1, ⟨R, W, k2⟩, ⟨R3, W3, k3⟩, k4, k5, k6, k7⟩ := hI
  subst e1
  refine ⟨_, _, [bd_w a3 q s3, mo_w a4 q s4, pg_w a5 q s5, pa_r s8 q 2 BB z7, ps_w q 2 BB z7].flatten, _, _, _, c2_X6_row (a1 := a1) (a2 := a2) (a3 := a3) (a4 := a4) (a5 := a5) (p8 := p8) (s8 := s8) (p9 := p9) (AA := AA) (post := fun r ua ub uc => (∃ M, tz M ua ∧ M = 0) ∧ bx ub ∧ pa uc) (wq_X6_row k1 k2 k6 (fun r ua ub uc b0 b1 b2 => ⟨⟨0, b0, rfl⟩, ⟨R, W, b1⟩, b2⟩)), rfl, ?_, fun r u hu => ?_⟩
  · rw [e2]
    have hp := bk_perm (L := cb_l q a0 a1 a2 a3 a4 a5 p8 s8 p9 AA BB s1 s2 s3 s4 s5 s6 z7) (L2 := [fo_w (a0 0) (a1 0) (a2 0) (a3 0) (a4 0) (a5 0) p8 s8, tp_w a1 q s1, bd_w a2 q s2, pa_o p8 p9 s6, pa_r p9 q 10 AA s6.2, ps_w q 10 AA s6.2, bd_w a3 q s3, mo_w a4 q s4, pg_w a5 q s5, pa_r s8 q 2 BB z7, ps_w q 2 BB z7]) [0, 1, 2, 6, 7, 8, 3, 4, 5, 9, 10] (show List.Perm _ (List.range 11) by decide) rfl rfl
    refine hp.trans ?_
    simp only [List.flatten_cons, List.flatten_nil, List.append_nil, List.append_assoc]
    exact List.Perm.refl _
  · obtain ⟨g0, g1, g2⟩ := hu
    obtain ⟨M, gT, gR⟩ := g0
    refine ⟨_, ⟨M, ⟨a0, a1, a2, a3, a4, a5, p8, s8, p9, u.1, BB, u.2.1, u.2.2.1, s3, s4, s5, u.2.2.2, z7, rfl, rfl, gT, g1, ⟨R3, W3, k3⟩, k4, k5, g2, k7⟩, gR⟩, ?_⟩
    have hp := bk_perm (L := cb_l q a0 a1 a2 a3 a4 a5 p8 s8 p9 u.1 BB u.2.1 u.2.2.1 s3 s4 s5 u.2.2.2 z7) (L2 := [fo_w (a0 0) (a1 0) (a2 0) (a3 0) (a4 0) (a5 0) p8 s8, tp_w a1 q u.2.1, bd_w a2 q u.2.2.1, pa_o p8 p9 u.2.2.2, pa_r p9 q 10 u.1 u.2.2.2.2, ps_w q 10 u.1 u.2.2.2.2, bd_w a3 q s3, mo_w a4 q s4, pg_w a5 q s5, pa_r s8 q 2 BB z7, ps_w q 2 BB z7]) [0, 1, 2, 6, 7, 8, 3, 4, 5, 9, 10] (show List.Perm _ (List.range 11) by decide) rfl rfl
    refine List.Perm.symm (hp.trans ?_)
    simp only [List.flatten_cons, List.flatten_nil, List.append_nil, List.append_assoc]
    exact List.Perm.refl _
theorem um_scroll {l : Launch} {D : va_G} {q : Nat → ClassId} {h : Nat} {w : va_W} {N : Int} (hI : c_I N q h w) : un_i l D q 5 yX6_scroll cX6_scroll 2 (some .int) ({ frames := 4, cells := 14, slots := 6906, locals := 146 } : Room) h [] 14 6906 w (fun r w3 => ∃ M, c_I M q h w3 ∧ M = 0) := by
  intro sz
  obtain ⟨a0, a1, a2, a3, a4, a5, p8, s8, p9, AA, BB, s1, s2, s3, s4, s5, s6, z7, e1, e2, k1, ⟨R, W, k2⟩, ⟨R3, W3, k3⟩, k4, k5, k6, k7⟩ := hI
  subst e1
  refine ⟨_, _, [bd_w a3 q s3, mo_w a4 q s4, pg_w a5 q s5, pa_r s8 q 2 BB z7, ps_w q 2 BB z7].flatten, _, _, _, c2_X6_scroll (a1 := a1) (a2 := a2) (a3 := a3) (a4 := a4) (a5 := a5) (p8 := p8) (s8 := s8) (p9 := p9) (AA := AA) (post := fun r ua ub uc => (∃ M, tz M ua ∧ M = 0) ∧ bx ub ∧ pa uc) (wq_X6_scroll k1 k2 k6 (fun r ua ub uc b0 b1 b2 => ⟨⟨0, b0, rfl⟩, ⟨R, W, b1⟩, b2⟩)), rfl, ?_, fun r u hu => ?_⟩
  · rw [e2]
    have hp := bk_perm (L := cb_l q a0 a1 a2 a3 a4 a5 p8 s8 p9 AA BB s1 s2 s3 s4 s5 s6 z7) (L2 := [fo_w (a0 0) (a1 0) (a2 0) (a3 0) (a4 0) (a5 0) p8 s8, tp_w a1 q s1, bd_w a2 q s2, pa_o p8 p9 s6, pa_r p9 q 10 AA s6.2, ps_w q 10 AA s6.2, bd_w a3 q s3, mo_w a4 q s4, pg_w a5 q s5, pa_r s8 q 2 BB z7, ps_w q 2 BB z7]) [0, 1, 2, 6, 7, 8, 3, 4, 5, 9, 10] (show List.Perm _ (List.range 11) by decide) rfl rfl
    refine hp.trans ?_
    simp only [List.flatten_cons, List.flatten_nil, List.append_nil, List.append_assoc]
    exact List.Perm.refl _
  · obtain ⟨g0, g1, g2⟩ := hu
    obtain ⟨M, gT, gR⟩ := g0
    refine ⟨_, ⟨M, ⟨a0, a1, a2, a3, a4, a5, p8, s8, p9, u.1, BB, u.2.1, u.2.2.1, s3, s4, s5, u.2.2.2, z7, rfl, rfl, gT, g1, ⟨R3, W3, k3⟩, k4, k5, g2, k7⟩, gR⟩, ?_⟩
    have hp := bk_perm (L := cb_l q a0 a1 a2 a3 a4 a5 p8 s8 p9 u.1 BB u.2.1 u.2.2.1 s3 s4 s5 u.2.2.2 z7) (L2 := [fo_w (a0 0) (a1 0) (a2 0) (a3 0) (a4 0) (a5 0) p8 s8, tp_w a1 q u.2.1, bd_w a2 q u.2.2.1, pa_o p8 p9 u.2.2.2, pa_r p9 q 10 u.1 u.2.2.2.2, ps_w q 10 u.1 u.2.2.2.2, bd_w a3 q s3, mo_w a4 q s4, pg_w a5 q s5, pa_r s8 q 2 BB z7, ps_w q 2 BB z7]) [0, 1, 2, 6, 7, 8, 3, 4, 5, 9, 10] (show List.Perm _ (List.range 11) by decide) rfl rfl
    refine List.Perm.symm (hp.trans ?_)
    simp only [List.flatten_cons, List.flatten_nil, List.append_nil, List.append_assoc]
    exact List.Perm.refl _
theorem um_tick {l : Launch} {D : va_G} {q : Nat → ClassId} {h : Nat} {w : va_W} {N : Int} {x1 : Int32} (hI : c_I N q h w) : un_i l D q 5 yX6_tick cX6_tick 2 (some .int) ({ frames := 4, cells := 14, slots := 6906, locals := 146 } : Room) h [.int x1] 14 6906 w (fun r w3 => ∃ M, c_I M q h w3 ∧ M = N) := by
  intro sz
  obtain ⟨a0, a1, a2, a3, a4, a5, p8, s8, p9, AA, BB, s1, s2, s3, s4, s5, s6, z7, e1, e2, k1, ⟨R, W, k2⟩, ⟨R3, W3, k3⟩, k4, k5, k6, k7⟩ := hI
  subst e1
  refine ⟨_, _, [tp_w a1 q s1, bd_w a3 q s3, pg_w a5 q s5, pa_r s8 q 2 BB z7, ps_w q 2 BB z7].flatten, _, _, _, c2_X6_tick (a1 := a1) (a2 := a2) (a3 := a3) (a4 := a4) (a5 := a5) (p8 := p8) (s8 := s8) (p9 := p9) (AA := AA) (post := fun r ua ub uc => bx ua ∧ mo ub ∧ pa uc) (wq_X6_tick k2 k4 k6 (fun r ua ub uc b0 b1 b2 => ⟨⟨R, W, b0⟩, b1, b2⟩)), rfl, ?_, fun r u hu => ?_⟩
  · rw [e2]
    have hp := bk_perm (L := cb_l q a0 a1 a2 a3 a4 a5 p8 s8 p9 AA BB s1 s2 s3 s4 s5 s6 z7) (L2 := [fo_w (a0 0) (a1 0) (a2 0) (a3 0) (a4 0) (a5 0) p8 s8, bd_w a2 q s2, mo_w a4 q s4, pa_o p8 p9 s6, pa_r p9 q 10 AA s6.2, ps_w q 10 AA s6.2, tp_w a1 q s1, bd_w a3 q s3, pg_w a5 q s5, pa_r s8 q 2 BB z7, ps_w q 2 BB z7]) [0, 2, 4, 6, 7, 8, 1, 3, 5, 9, 10] (show List.Perm _ (List.range 11) by decide) rfl rfl
    refine hp.trans ?_
    simp only [List.flatten_cons, List.flatten_nil, List.append_nil, List.append_assoc]
    exact List.Perm.refl _
  · obtain ⟨g0, g1, g2⟩ := hu
    refine ⟨_, ⟨N, ⟨a0, a1, a2, a3, a4, a5, p8, s8, p9, u.1, BB, s1, u.2.1, s3, u.2.2.1, s5, u.2.2.2, z7, rfl, rfl, k1, g0, ⟨R3, W3, k3⟩, g1, k5, g2, k7⟩, rfl⟩, ?_⟩
    have hp := bk_perm (L := cb_l q a0 a1 a2 a3 a4 a5 p8 s8 p9 u.1 BB s1 u.2.1 s3 u.2.2.1 s5 u.2.2.2 z7) (L2 := [fo_w (a0 0) (a1 0) (a2 0) (a3 0) (a4 0) (a5 0) p8 s8, bd_w a2 q u.2.1, mo_w a4 q u.2.2.1, pa_o p8 p9 u.2.2.2, pa_r p9 q 10 u.1 u.2.2.2.2, ps_w q 10 u.1 u.2.2.2.2, tp_w a1 q s1, bd_w a3 q s3, pg_w a5 q s5, pa_r s8 q 2 BB z7, ps_w q 2 BB z7]) [0, 2, 4, 6, 7, 8, 1, 3, 5, 9, 10] (show List.Perm _ (List.range 11) by decide) rfl rfl
    refine List.Perm.symm (hp.trans ?_)
    simp only [List.flatten_cons, List.flatten_nil, List.append_nil, List.append_assoc]
    exact List.Perm.refl _
theorem um_settle {l : Launch} {D : va_G} {q : Nat → ClassId} {h : Nat} {w : va_W} {N : Int} (hI : c_I N q h w) : un_i l D q 5 yX6_settle cX6_settle 1 (some .int) ({ frames := 4, cells := 14, slots := 6906, locals := 146 } : Room) h [] 14 6906 w (fun r w3 => ∃ M, c_I M q h w3 ∧ M = N) := by
  intro sz
  obtain ⟨a0, a1, a2, a3, a4, a5, p8, s8, p9, AA, BB, s1, s2, s3, s4, s5, s6, z7, e1, e2, k1, ⟨R, W, k2⟩, ⟨R3, W3, k3⟩, k4, k5, k6, k7⟩ := hI
  subst e1
  refine ⟨_, _, [tp_w a1 q s1, bd_w a3 q s3, pg_w a5 q s5, pa_r s8 q 2 BB z7, ps_w q 2 BB z7].flatten, _, _, _, c2_X6_settle (a1 := a1) (a2 := a2) (a3 := a3) (a4 := a4) (a5 := a5) (p8 := p8) (s8 := s8) (p9 := p9) (AA := AA) (post := fun r ua ub uc => bx ua ∧ mo ub ∧ pa uc) (wq_X6_settle k2 k4 k6 (fun r ua ub uc b0 b1 b2 => ⟨⟨R, W, b0⟩, b1, b2⟩)), rfl, ?_, fun r u hu => ?_⟩
  · rw [e2]
    have hp := bk_perm (L := cb_l q a0 a1 a2 a3 a4 a5 p8 s8 p9 AA BB s1 s2 s3 s4 s5 s6 z7) (L2 := [fo_w (a0 0) (a1 0) (a2 0) (a3 0) (a4 0) (a5 0) p8 s8, bd_w a2 q s2, mo_w a4 q s4, pa_o p8 p9 s6, pa_r p9 q 10 AA s6.2, ps_w q 10 AA s6.2, tp_w a1 q s1, bd_w a3 q s3, pg_w a5 q s5, pa_r s8 q 2 BB z7, ps_w q 2 BB z7]) [0, 2, 4, 6, 7, 8, 1, 3, 5, 9, 10] (show List.Perm _ (List.range 11) by decide) rfl rfl
    refine hp.trans ?_
    simp only [List.flatten_cons, List.flatten_nil, List.append_nil, List.append_assoc]
    exact List.Perm.refl _
  · obtain ⟨g0, g1, g2⟩ := hu
    refine ⟨_, ⟨N, ⟨a0, a1, a2, a3, a4, a5, p8, s8, p9, u.1, BB, s1, u.2.1, s3, u.2.2.1, s5, u.2.2.2, z7, rfl, rfl, k1, g0, ⟨R3, W3, k3⟩, g1, k5, g2, k7⟩, rfl⟩, ?_⟩
    have hp := bk_perm (L := cb_l q a0 a1 a2 a3 a4 a5 p8 s8 p9 u.1 BB s1 u.2.1 s3 u.2.2.1 s5 u.2.2.2 z7) (L2 := [fo_w (a0 0) (a1 0) (a2 0) (a3 0) (a4 0) (a5 0) p8 s8, bd_w a2 q u.2.1, mo_w a4 q u.2.2.1, pa_o p8 p9 u.2.2.2, pa_r p9 q 10 u.1 u.2.2.2.2, ps_w q 10 u.1 u.2.2.2.2, tp_w a1 q s1, bd_w a3 q s3, pg_w a5 q s5, pa_r s8 q 2 BB z7, ps_w q 2 BB z7]) [0, 2, 4, 6, 7, 8, 1, 3, 5, 9, 10] (show List.Perm _ (List.range 11) by decide) rfl rfl
    refine List.Perm.symm (hp.trans ?_)
    simp only [List.flatten_cons, List.flatten_nil, List.append_nil, List.append_assoc]
    exact List.Perm.refl _
theorem um_lose {l : Launch} {D : va_G} {q : Nat → ClassId} {h : Nat} {w : va_W} {N : Int} {x1 x2 : Int32} (hI : c_I N q h w) : un_i l D q 5 yX6_lose cX6_lose 4 (some .int) ({ frames := 4, cells := 14, slots := 6906, locals := 146 } : Room) h [.int x1, .int x2] 14 6906 w (fun r w3 => ∃ M, c_I M q h w3 ∧ M = N) := by
  intro sz
  obtain ⟨a0, a1, a2, a3, a4, a5, p8, s8, p9, AA, BB, s1, s2, s3, s4, s5, s6, z7, e1, e2, k1, ⟨R, W, k2⟩, ⟨R3, W3, k3⟩, k4, k5, k6, k7⟩ := hI
  subst e1
  refine ⟨_, _, [tp_w a1 q s1, bd_w a3 q s3, mo_w a4 q s4, pg_w a5 q s5, pa_r s8 q 2 BB z7, ps_w q 2 BB z7].flatten, _, _, _, c2_X6_lose (a1 := a1) (a2 := a2) (a3 := a3) (a4 := a4) (a5 := a5) (p8 := p8) (s8 := s8) (p9 := p9) (AA := AA) (post := fun r ua ub => bx ua ∧ pa ub) (wq_X6_lose k2 k6 (fun r ua ub b0 b1 => ⟨⟨R, W, b0⟩, b1⟩)), rfl, ?_, fun r u hu => ?_⟩
  · rw [e2]
    have hp := bk_perm (L := cb_l q a0 a1 a2 a3 a4 a5 p8 s8 p9 AA BB s1 s2 s3 s4 s5 s6 z7) (L2 := [fo_w (a0 0) (a1 0) (a2 0) (a3 0) (a4 0) (a5 0) p8 s8, bd_w a2 q s2, pa_o p8 p9 s6, pa_r p9 q 10 AA s6.2, ps_w q 10 AA s6.2, tp_w a1 q s1, bd_w a3 q s3, mo_w a4 q s4, pg_w a5 q s5, pa_r s8 q 2 BB z7, ps_w q 2 BB z7]) [0, 2, 6, 7, 8, 1, 3, 4, 5, 9, 10] (show List.Perm _ (List.range 11) by decide) rfl rfl
    refine hp.trans ?_
    simp only [List.flatten_cons, List.flatten_nil, List.append_nil, List.append_assoc]
    exact List.Perm.refl _
  · obtain ⟨g0, g1⟩ := hu
    refine ⟨_, ⟨N, ⟨a0, a1, a2, a3, a4, a5, p8, s8, p9, u.1, BB, s1, u.2.1, s3, s4, s5, u.2.2, z7, rfl, rfl, k1, g0, ⟨R3, W3, k3⟩, k4, k5, g1, k7⟩, rfl⟩, ?_⟩
    have hp := bk_perm (L := cb_l q a0 a1 a2 a3 a4 a5 p8 s8 p9 u.1 BB s1 u.2.1 s3 s4 s5 u.2.2 z7) (L2 := [fo_w (a0 0) (a1 0) (a2 0) (a3 0) (a4 0) (a5 0) p8 s8, bd_w a2 q u.2.1, pa_o p8 p9 u.2.2, pa_r p9 q 10 u.1 u.2.2.2, ps_w q 10 u.1 u.2.2.2, tp_w a1 q s1, bd_w a3 q s3, mo_w a4 q s4, pg_w a5 q s5, pa_r s8 q 2 BB z7, ps_w q 2 BB z7]) [0, 2, 6, 7, 8, 1, 3, 4, 5, 9, 10] (show List.Perm _ (List.range 11) by decide) rfl rfl
    refine List.Perm.symm (hp.trans ?_)
    simp only [List.flatten_cons, List.flatten_nil, List.append_nil, List.append_assoc]
    exact List.Perm.refl _
theorem um_wear {l : Launch} {D : va_G} {q : Nat → ClassId} {h : Nat} {w : va_W} {N : Int} {x1 x2 : Int32} (hI : c_I N q h w) : un_i l D q 5 yX6_wear cX6_wear 3 (some .int) ({ frames := 4, cells := 14, slots := 6906, locals := 146 } : Room) h [.int x1, .int x2] 14 6906 w (fun r w3 => ∃ M, c_I M q h w3 ∧ M = N) := by
  intro sz
  obtain ⟨a0, a1, a2, a3, a4, a5, p8, s8, p9, AA, BB, s1, s2, s3, s4, s5, s6, z7, e1, e2, k1, ⟨R, W, k2⟩, ⟨R3, W3, k3⟩, k4, k5, k6, k7⟩ := hI
  subst e1
  refine ⟨_, _, [tp_w a1 q s1, bd_w a3 q s3, mo_w a4 q s4, pg_w a5 q s5, pa_r s8 q 2 BB z7, ps_w q 2 BB z7].flatten, _, _, _, c2_X6_wear (a1 := a1) (a2 := a2) (a3 := a3) (a4 := a4) (a5 := a5) (p8 := p8) (s8 := s8) (p9 := p9) (AA := AA) (post := fun r ua ub => bx ua ∧ pa ub) (wq_X6_wear k2 k6 (fun r ua ub b0 b1 => ⟨⟨R, W, b0⟩, b1⟩)), rfl, ?_, fun r u hu => ?_⟩
  · rw [e2]
    have hp := bk_perm (L := cb_l q a0 a1 a2 a3 a4 a5 p8 s8 p9 AA BB s1 s2 s3 s4 s5 s6 z7) (L2 := [fo_w (a0 0) (a1 0) (a2 0) (a3 0) (a4 0) (a5 0) p8 s8, bd_w a2 q s2, pa_o p8 p9 s6, pa_r p9 q 10 AA s6.2, ps_w q 10 AA s6.2, tp_w a1 q s1, bd_w a3 q s3, mo_w a4 q s4, pg_w a5 q s5, pa_r s8 q 2 BB z7, ps_w q 2 BB z7]) [0, 2, 6, 7, 8, 1, 3, 4, 5, 9, 10] (show List.Perm _ (List.range 11) by decide) rfl rfl
    refine hp.trans ?_
    simp only [List.flatten_cons, List.flatten_nil, List.append_nil, List.append_assoc]
    exact List.Perm.refl _
  · obtain ⟨g0, g1⟩ := hu
    refine ⟨_, ⟨N, ⟨a0, a1, a2, a3, a4, a5, p8, s8, p9, u.1, BB, s1, u.2.1, s3, s4, s5, u.2.2, z7, rfl, rfl, k1, g0, ⟨R3, W3, k3⟩, k4, k5, g1, k7⟩, rfl⟩, ?_⟩
    have hp := bk_perm (L := cb_l q a0 a1 a2 a3 a4 a5 p8 s8 p9 u.1 BB s1 u.2.1 s3 s4 s5 u.2.2 z7) (L2 := [fo_w (a0 0) (a1 0) (a2 0) (a3 0) (a4 0) (a5 0) p8 s8, bd_w a2 q u.2.1, pa_o p8 p9 u.2.2, pa_r p9 q 10 u.1 u.2.2.2, ps_w q 10 u.1 u.2.2.2, tp_w a1 q s1, bd_w a3 q s3, mo_w a4 q s4, pg_w a5 q s5, pa_r s8 q 2 BB z7, ps_w q 2 BB z7]) [0, 2, 6, 7, 8, 1, 3, 4, 5, 9, 10] (show List.Perm _ (List.range 11) by decide) rfl rfl
    refine List.Perm.symm (hp.trans ?_)
    simp only [List.flatten_cons, List.flatten_nil, List.append_nil, List.append_assoc]
    exact List.Perm.refl _
theorem um_mend {l : Launch} {D : va_G} {q : Nat → ClassId} {h : Nat} {w : va_W} {N : Int} {x1 x2 : Int32} (hI : c_I N q h w) : un_i l D q 5 yX6_mend cX6_mend 3 (some .int) ({ frames := 4, cells := 14, slots := 6906, locals := 146 } : Room) h [.int x1, .int x2] 14 6906 w (fun r w3 => ∃ M, c_I M q h w3 ∧ M = N) := by
  intro sz
  obtain ⟨a0, a1, a2, a3, a4, a5, p8, s8, p9, AA, BB, s1, s2, s3, s4, s5, s6, z7, e1, e2, k1, ⟨R, W, k2⟩, ⟨R3, W3, k3⟩, k4, k5, k6, k7⟩ := hI
  subst e1
  refine ⟨_, _, [tp_w a1 q s1, bd_w a3 q s3, mo_w a4 q s4, pg_w a5 q s5, pa_r s8 q 2 BB z7, ps_w q 2 BB z7].flatten, _, _, _, c2_X6_mend (a1 := a1) (a2 := a2) (a3 := a3) (a4 := a4) (a5 := a5) (p8 := p8) (s8 := s8) (p9 := p9) (AA := AA) (post := fun r ua ub => bx ua ∧ pa ub) (wq_X6_mend k2 k6 (fun r ua ub b0 b1 => ⟨⟨R, W, b0⟩, b1⟩)), rfl, ?_, fun r u hu => ?_⟩
  · rw [e2]
    have hp := bk_perm (L := cb_l q a0 a1 a2 a3 a4 a5 p8 s8 p9 AA BB s1 s2 s3 s4 s5 s6 z7) (L2 := [fo_w (a0 0) (a1 0) (a2 0) (a3 0) (a4 0) (a5 0) p8 s8, bd_w a2 q s2, pa_o p8 p9 s6, pa_r p9 q 10 AA s6.2, ps_w q 10 AA s6.2, tp_w a1 q s1, bd_w a3 q s3, mo_w a4 q s4, pg_w a5 q s5, pa_r s8 q 2 BB z7, ps_w q 2 BB z7]) [0, 2, 6, 7, 8, 1, 3, 4, 5, 9, 10] (show List.Perm _ (List.range 11) by decide) rfl rfl
    refine hp.trans ?_
    simp only [List.flatten_cons, List.flatten_nil, List.append_nil, List.append_assoc]
    exact List.Perm.refl _
  · obtain ⟨g0, g1⟩ := hu
    refine ⟨_, ⟨N, ⟨a0, a1, a2, a3, a4, a5, p8, s8, p9, u.1, BB, s1, u.2.1, s3, s4, s5, u.2.2, z7, rfl, rfl, k1, g0, ⟨R3, W3, k3⟩, k4, k5, g1, k7⟩, rfl⟩, ?_⟩
    have hp := bk_perm (L := cb_l q a0 a1 a2 a3 a4 a5 p8 s8 p9 u.1 BB s1 u.2.1 s3 s4 s5 u.2.2 z7) (L2 := [fo_w (a0 0) (a1 0) (a2 0) (a3 0) (a4 0) (a5 0) p8 s8, bd_w a2 q u.2.1, pa_o p8 p9 u.2.2, pa_r p9 q 10 u.1 u.2.2.2, ps_w q 10 u.1 u.2.2.2, tp_w a1 q s1, bd_w a3 q s3, mo_w a4 q s4, pg_w a5 q s5, pa_r s8 q 2 BB z7, ps_w q 2 BB z7]) [0, 2, 6, 7, 8, 1, 3, 4, 5, 9, 10] (show List.Perm _ (List.range 11) by decide) rfl rfl
    refine List.Perm.symm (hp.trans ?_)
    simp only [List.flatten_cons, List.flatten_nil, List.append_nil, List.append_assoc]
    exact List.Perm.refl _
theorem um_limit {l : Launch} {D : va_G} {q : Nat → ClassId} {h : Nat} {w : va_W} {N : Int} {x1 : Int32} (hI : c_I N q h w) : un_i l D q 5 yX6_limit cX6_limit 3 (some .int) ({ frames := 4, cells := 14, slots := 6906, locals := 146 } : Room) h [.int x1] 14 6906 w (fun r w3 => ∃ M, c_I M q h w3 ∧ M = N) := by
  intro sz
  obtain ⟨a0, a1, a2, a3, a4, a5, p8, s8, p9, AA, BB, s1, s2, s3, s4, s5, s6, z7, e1, e2, k1, ⟨R, W, k2⟩, ⟨R3, W3, k3⟩, k4, k5, k6, k7⟩ := hI
  subst e1
  refine ⟨_, _, [tp_w a1 q s1, bd_w a3 q s3, mo_w a4 q s4, pg_w a5 q s5, pa_r s8 q 2 BB z7, ps_w q 2 BB z7].flatten, _, _, _, c2_X6_limit (a1 := a1) (a2 := a2) (a3 := a3) (a4 := a4) (a5 := a5) (p8 := p8) (s8 := s8) (p9 := p9) (AA := AA) (post := fun r ua ub => bx ua ∧ pa ub) (wq_X6_limit k2 k6 (fun r ua ub b0 b1 => ⟨⟨R, W, b0⟩, b1⟩)), rfl, ?_, fun r u hu => ?_⟩
  · rw [e2]
    have hp := bk_perm (L := cb_l q a0 a1 a2 a3 a4 a5 p8 s8 p9 AA BB s1 s2 s3 s4 s5 s6 z7) (L2 := [fo_w (a0 0) (a1 0) (a2 0) (a3 0) (a4 0) (a5 0) p8 s8, bd_w a2 q s2, pa_o p8 p9 s6, pa_r p9 q 10 AA s6.2, ps_w q 10 AA s6.2, tp_w a1 q s1, bd_w a3 q s3, mo_w a4 q s4, pg_w a5 q s5, pa_r s8 q 2 BB z7, ps_w q 2 BB z7]) [0, 2, 6, 7, 8, 1, 3, 4, 5, 9, 10] (show List.Perm _ (List.range 11) by decide) rfl rfl
    refine hp.trans ?_
    simp only [List.flatten_cons, List.flatten_nil, List.append_nil, List.append_assoc]
    exact List.Perm.refl _
  · obtain ⟨g0, g1⟩ := hu
    refine ⟨_, ⟨N, ⟨a0, a1, a2, a3, a4, a5, p8, s8, p9, u.1, BB, s1, u.2.1, s3, s4, s5, u.2.2, z7, rfl, rfl, k1, g0, ⟨R3, W3, k3⟩, k4, k5, g1, k7⟩, rfl⟩, ?_⟩
    have hp := bk_perm (L := cb_l q a0 a1 a2 a3 a4 a5 p8 s8 p9 u.1 BB s1 u.2.1 s3 s4 s5 u.2.2 z7) (L2 := [fo_w (a0 0) (a1 0) (a2 0) (a3 0) (a4 0) (a5 0) p8 s8, bd_w a2 q u.2.1, pa_o p8 p9 u.2.2, pa_r p9 q 10 u.1 u.2.2.2, ps_w q 10 u.1 u.2.2.2, tp_w a1 q s1, bd_w a3 q s3, mo_w a4 q s4, pg_w a5 q s5, pa_r s8 q 2 BB z7, ps_w q 2 BB z7]) [0, 2, 6, 7, 8, 1, 3, 4, 5, 9, 10] (show List.Perm _ (List.range 11) by decide) rfl rfl
    refine List.Perm.symm (hp.trans ?_)
    simp only [List.flatten_cons, List.flatten_nil, List.append_nil, List.append_assoc]
    exact List.Perm.refl _
theorem um_exchange {l : Launch} {D : va_G} {q : Nat → ClassId} {h : Nat} {w : va_W} {N : Int} {x1 x2 x3 : Int32} (hI : c_I N q h w) : un_i l D q 5 yX6_exchange cX6_exchange 4 (some .int) ({ frames := 4, cells := 15, slots := 13306, locals := 146 } : Room) h [.int x1, .int x2, .int x3] 15 13306 w (fun r w3 => ∃ M, c_I M q h w3 ∧ M = N) := by
  intro sz
  obtain ⟨a0, a1, a2, a3, a4, a5, p8, s8, p9, AA, BB, s1, s2, s3, s4, s5, s6, z7, e1, e2, k1, ⟨R, W, k2⟩, ⟨R3, W3, k3⟩, k4, k5, k6, k7⟩ := hI
  subst e1
  refine ⟨_, _, [tp_w a1 q s1, bd_w a3 q s3, mo_w a4 q s4, pg_w a5 q s5, pa_r s8 q 2 BB z7, ps_w q 2 BB z7].flatten, _, _, _, c2_X6_exchange (a1 := a1) (a2 := a2) (a3 := a3) (a4 := a4) (a5 := a5) (p8 := p8) (s8 := s8) (p9 := p9) (AA := AA) (post := fun r ua ub => bx ua ∧ pa ub) (wq_X6_exchange k2 k6 (fun r ua ub b0 b1 => ⟨⟨R, W, b0⟩, b1⟩)), rfl, ?_, fun r u hu => ?_⟩
  · rw [e2]
    have hp := bk_perm (L := cb_l q a0 a1 a2 a3 a4 a5 p8 s8 p9 AA BB s1 s2 s3 s4 s5 s6 z7) (L2 := [fo_w (a0 0) (a1 0) (a2 0) (a3 0) (a4 0) (a5 0) p8 s8, bd_w a2 q s2, pa_o p8 p9 s6, pa_r p9 q 10 AA s6.2, ps_w q 10 AA s6.2, tp_w a1 q s1, bd_w a3 q s3, mo_w a4 q s4, pg_w a5 q s5, pa_r s8 q 2 BB z7, ps_w q 2 BB z7]) [0, 2, 6, 7, 8, 1, 3, 4, 5, 9, 10] (show List.Perm _ (List.range 11) by decide) rfl rfl
    refine hp.trans ?_
    simp only [List.flatten_cons, List.flatten_nil, List.append_nil, List.append_assoc]
    exact List.Perm.refl _
  · obtain ⟨g0, g1⟩ := hu
    refine ⟨_, ⟨N, ⟨a0, a1, (va_up a2 12 u.2.1), a3, a4, a5, p8, s8, p9, u.1, BB, s1, u.2.2.1, s3, s4, s5, u.2.2.2, z7, rfl, rfl, k1, g0, ⟨R3, W3, k3⟩, k4, k5, g1, k7⟩, rfl⟩, ?_⟩
    have hp := bk_perm (L := cb_l q a0 a1 (va_up a2 12 u.2.1) a3 a4 a5 p8 s8 p9 u.1 BB s1 u.2.2.1 s3 s4 s5 u.2.2.2 z7) (L2 := [fo_w (a0 0) (a1 0) (a2 0) (a3 0) (a4 0) (a5 0) p8 s8, bd_w (va_up a2 12 u.2.1) q u.2.2.1, pa_o p8 p9 u.2.2.2, pa_r p9 q 10 u.1 u.2.2.2.2, ps_w q 10 u.1 u.2.2.2.2, tp_w a1 q s1, bd_w a3 q s3, mo_w a4 q s4, pg_w a5 q s5, pa_r s8 q 2 BB z7, ps_w q 2 BB z7]) [0, 2, 6, 7, 8, 1, 3, 4, 5, 9, 10] (show List.Perm _ (List.range 11) by decide) rfl rfl
    refine List.Perm.symm (hp.trans ?_)
    simp only [List.flatten_cons, List.flatten_nil, List.append_nil, List.append_assoc]
    exact List.Perm.refl _
theorem um_run {l : Launch} {D : va_G} {q : Nat → ClassId} {h : Nat} {w : va_W} {N : Int} (hI : c_I N q h w) : un_i l D q 5 yX6_run cX6_run 2 (some .int) ({ frames := 9, cells := 14, slots := 6906, locals := 192 } : Room) h [] 14 6906 w (fun r w3 => ∃ M, c_I M q h w3 ∧ M = 0) := by
  intro sz
  obtain ⟨a0, a1, a2, a3, a4, a5, p8, s8, p9, AA, BB, s1, s2, s3, s4, s5, s6, z7, e1, e2, k1, ⟨R, W, k2⟩, ⟨R3, W3, k3⟩, k4, k5, k6, k7⟩ := hI
  subst e1
  refine ⟨_, _, [bd_w a3 q s3, pa_r s8 q 2 BB z7, ps_w q 2 BB z7].flatten, _, _, _, c2_X6_run (a1 := a1) (a2 := a2) (a3 := a3) (a4 := a4) (a5 := a5) (p8 := p8) (s8 := s8) (p9 := p9) (AA := AA) (post := fun r ua ub uc ud ue => (∃ M, tz M ua ∧ M = 0) ∧ bx ub ∧ mo uc ∧ pz ud ∧ pa ue) (wq_X6_run k1 k2 k4 k5 k6 (fun r ua ub uc ud ue b0 b1 b2 b3 b4 => ⟨⟨0, b0, rfl⟩, ⟨R, W, b1⟩, b2, b3, b4⟩)), rfl, ?_, fun r u hu => ?_⟩
  · rw [e2]
    have hp := bk_perm (L := cb_l q a0 a1 a2 a3 a4 a5 p8 s8 p9 AA BB s1 s2 s3 s4 s5 s6 z7) (L2 := [fo_w (a0 0) (a1 0) (a2 0) (a3 0) (a4 0) (a5 0) p8 s8, tp_w a1 q s1, bd_w a2 q s2, mo_w a4 q s4, pg_w a5 q s5, pa_o p8 p9 s6, pa_r p9 q 10 AA s6.2, ps_w q 10 AA s6.2, bd_w a3 q s3, pa_r s8 q 2 BB z7, ps_w q 2 BB z7]) [0, 1, 2, 4, 5, 6, 7, 8, 3, 9, 10] (show List.Perm _ (List.range 11) by decide) rfl rfl
    refine hp.trans ?_
    simp only [List.flatten_cons, List.flatten_nil, List.append_nil, List.append_assoc]
    exact List.Perm.refl _
  · obtain ⟨g0, g1, g2, g3, g4⟩ := hu
    obtain ⟨M, gT, gR⟩ := g0
    refine ⟨_, ⟨M, ⟨a0, a1, a2, a3, a4, a5, p8, s8, p9, u.1, BB, u.2.1, u.2.2.1, s3, u.2.2.2.1, u.2.2.2.2.1, u.2.2.2.2.2, z7, rfl, rfl, gT, g1, ⟨R3, W3, k3⟩, g2, g3, g4, k7⟩, gR⟩, ?_⟩
    have hp := bk_perm (L := cb_l q a0 a1 a2 a3 a4 a5 p8 s8 p9 u.1 BB u.2.1 u.2.2.1 s3 u.2.2.2.1 u.2.2.2.2.1 u.2.2.2.2.2 z7) (L2 := [fo_w (a0 0) (a1 0) (a2 0) (a3 0) (a4 0) (a5 0) p8 s8, tp_w a1 q u.2.1, bd_w a2 q u.2.2.1, mo_w a4 q u.2.2.2.1, pg_w a5 q u.2.2.2.2.1, pa_o p8 p9 u.2.2.2.2.2, pa_r p9 q 10 u.1 u.2.2.2.2.2.2, ps_w q 10 u.1 u.2.2.2.2.2.2, bd_w a3 q s3, pa_r s8 q 2 BB z7, ps_w q 2 BB z7]) [0, 1, 2, 4, 5, 6, 7, 8, 3, 9, 10] (show List.Perm _ (List.range 11) by decide) rfl rfl
    refine List.Perm.symm (hp.trans ?_)
    simp only [List.flatten_cons, List.flatten_nil, List.append_nil, List.append_assoc]
    exact List.Perm.refl _
theorem um_undo {l : Launch} {D : va_G} {q : Nat → ClassId} {h : Nat} {w : va_W} {N : Int} (hI : c_I N q h w) : un_i l D q 5 yX6_undo cX6_undo 1 (some .int) ({ frames := 4, cells := 1, slots := 6400, locals := 146 } : Room) h [] 1 6400 w (fun r w3 => ∃ M, c_I M q h w3 ∧ M = N) := by
  intro sz
  obtain ⟨a0, a1, a2, a3, a4, a5, p8, s8, p9, AA, BB, s1, s2, s3, s4, s5, s6, z7, e1, e2, k1, ⟨R, W, k2⟩, ⟨R3, W3, k3⟩, k4, k5, k6, k7⟩ := hI
  subst e1
  refine ⟨_, _, [tp_w a1 q s1, bd_w a3 q s3, mo_w a4 q s4, pg_w a5 q s5, pa_r s8 q 2 BB z7, ps_w q 2 BB z7].flatten, _, _, _, c2_X6_undo (a1 := a1) (a2 := a2) (a3 := a3) (a4 := a4) (a5 := a5) (p8 := p8) (s8 := s8) (p9 := p9) (AA := AA) (post := fun r ua ub => bx ua ∧ pa ub) (wq_X6_undo k2 k6 (fun r ua ub R4 W4 b0 b1 => ⟨⟨R4, W4, b0⟩, b1⟩)), rfl, ?_, fun r u hu => ?_⟩
  · rw [e2]
    have hp := bk_perm (L := cb_l q a0 a1 a2 a3 a4 a5 p8 s8 p9 AA BB s1 s2 s3 s4 s5 s6 z7) (L2 := [fo_w (a0 0) (a1 0) (a2 0) (a3 0) (a4 0) (a5 0) p8 s8, bd_w a2 q s2, pa_o p8 p9 s6, pa_r p9 q 10 AA s6.2, ps_w q 10 AA s6.2, tp_w a1 q s1, bd_w a3 q s3, mo_w a4 q s4, pg_w a5 q s5, pa_r s8 q 2 BB z7, ps_w q 2 BB z7]) [0, 2, 6, 7, 8, 1, 3, 4, 5, 9, 10] (show List.Perm _ (List.range 11) by decide) rfl rfl
    refine hp.trans ?_
    simp only [List.flatten_cons, List.flatten_nil, List.append_nil, List.append_assoc]
    exact List.Perm.refl _
  · obtain ⟨g0, g1⟩ := hu
    refine ⟨_, ⟨N, ⟨a0, a1, (va_up a2 12 u.2.1), a3, a4, a5, p8, s8, p9, u.1, BB, s1, u.2.2.1, s3, s4, s5, u.2.2.2, z7, rfl, rfl, k1, g0, ⟨R3, W3, k3⟩, k4, k5, g1, k7⟩, rfl⟩, ?_⟩
    have hp := bk_perm (L := cb_l q a0 a1 (va_up a2 12 u.2.1) a3 a4 a5 p8 s8 p9 u.1 BB s1 u.2.2.1 s3 s4 s5 u.2.2.2 z7) (L2 := [fo_w (a0 0) (a1 0) (a2 0) (a3 0) (a4 0) (a5 0) p8 s8, bd_w (va_up a2 12 u.2.1) q u.2.2.1, pa_o p8 p9 u.2.2.2, pa_r p9 q 10 u.1 u.2.2.2.2, ps_w q 10 u.1 u.2.2.2.2, tp_w a1 q s1, bd_w a3 q s3, mo_w a4 q s4, pg_w a5 q s5, pa_r s8 q 2 BB z7, ps_w q 2 BB z7]) [0, 2, 6, 7, 8, 1, 3, 4, 5, 9, 10] (show List.Perm _ (List.range 11) by decide) rfl rfl
    refine List.Perm.symm (hp.trans ?_)
    simp only [List.flatten_cons, List.flatten_nil, List.append_nil, List.append_assoc]
    exact List.Perm.refl _
theorem um_keep {l : Launch} {D : va_G} {q : Nat → ClassId} {h : Nat} {w : va_W} {N : Int} {x1 : Int32} (hI : c_I N q h w) : un_i l D q 5 yX6_keep cX6_keep 3 (some .int) ({ frames := 3, cells := 14, slots := 6906, locals := 124 } : Room) h [.int x1] 14 6906 w (fun r w3 => ∃ M, c_I M q h w3 ∧ M = N) := by
  intro sz
  obtain ⟨a0, a1, a2, a3, a4, a5, p8, s8, p9, AA, BB, s1, s2, s3, s4, s5, s6, z7, e1, e2, k1, ⟨R, W, k2⟩, ⟨R3, W3, k3⟩, k4, k5, k6, k7⟩ := hI
  subst e1
  refine ⟨_, _, [tp_w a1 q s1, bd_w a3 q s3, mo_w a4 q s4, pg_w a5 q s5, pa_o p8 p9 s6, pa_r p9 q 10 AA s6.2, ps_w q 10 AA s6.2].flatten, _, _, _, c2_X6_keep (a1 := a1) (a2 := a2) (a3 := a3) (a4 := a4) (a5 := a5) (p8 := p8) (s8 := s8) (p9 := p9) (z7 := z7) (AA := BB) (post := fun r u => (∀ k, ob (u k))) (wq_X6_keep k2 k7 (fun r u b0 => b0)), rfl, ?_, fun r u hu => ?_⟩
  · rw [e2]
    have hp := bk_perm (L := cb_l q a0 a1 a2 a3 a4 a5 p8 s8 p9 AA BB s1 s2 s3 s4 s5 s6 z7) (L2 := [fo_w (a0 0) (a1 0) (a2 0) (a3 0) (a4 0) (a5 0) p8 s8, bd_w a2 q s2, pa_r s8 q 2 BB z7, ps_w q 2 BB z7, tp_w a1 q s1, bd_w a3 q s3, mo_w a4 q s4, pg_w a5 q s5, pa_o p8 p9 s6, pa_r p9 q 10 AA s6.2, ps_w q 10 AA s6.2]) [0, 2, 9, 10, 1, 3, 4, 5, 6, 7, 8] (show List.Perm _ (List.range 11) by decide) rfl rfl
    refine hp.trans ?_
    simp only [List.flatten_cons, List.flatten_nil, List.append_nil, List.append_assoc]
    exact List.Perm.refl _
  · have g0 := hu
    refine ⟨_, ⟨N, ⟨a0, a1, a2, a3, a4, a5, p8, s8, p9, AA, u.1, s1, s2, s3, s4, s5, s6, u.2, rfl, rfl, k1, ⟨R, W, k2⟩, ⟨R3, W3, k3⟩, k4, k5, k6, g0⟩, rfl⟩, ?_⟩
    have hp := bk_perm (L := cb_l q a0 a1 a2 a3 a4 a5 p8 s8 p9 AA u.1 s1 s2 s3 s4 s5 s6 u.2) (L2 := [fo_w (a0 0) (a1 0) (a2 0) (a3 0) (a4 0) (a5 0) p8 s8, bd_w a2 q s2, pa_r s8 q 2 u.1 u.2, ps_w q 2 u.1 u.2, tp_w a1 q s1, bd_w a3 q s3, mo_w a4 q s4, pg_w a5 q s5, pa_o p8 p9 s6, pa_r p9 q 10 AA s6.2, ps_w q 10 AA s6.2]) [0, 2, 9, 10, 1, 3, 4, 5, 6, 7, 8] (show List.Perm _ (List.range 11) by decide) rfl rfl
    refine List.Perm.symm (hp.trans ?_)
    simp only [List.flatten_cons, List.flatten_nil, List.append_nil, List.append_assoc]
    exact List.Perm.refl _
theorem um_back {l : Launch} {D : va_G} {q : Nat → ClassId} {h : Nat} {w : va_W} {N : Int} {x1 : Int32} (hI : c_I N q h w) : un_i l D q 5 yX6_back cX6_back 3 (some .int) ({ frames := 3, cells := 1, slots := 6400, locals := 124 } : Room) h [.int x1] 1 6400 w (fun r w3 => ∃ M, c_I M q h w3 ∧ M = N) := by
  intro sz
  obtain ⟨a0, a1, a2, a3, a4, a5, p8, s8, p9, AA, BB, s1, s2, s3, s4, s5, s6, z7, e1, e2, k1, ⟨R, W, k2⟩, ⟨R3, W3, k3⟩, k4, k5, k6, k7⟩ := hI
  subst e1
  refine ⟨_, _, [tp_w a1 q s1, bd_w a3 q s3, mo_w a4 q s4, pg_w a5 q s5, pa_r p9 q 10 AA s6.2, ps_w q 10 AA s6.2].flatten, _, _, _, c2_X6_back (a1 := a1) (a2 := a2) (a3 := a3) (a4 := a4) (a5 := a5) (p8 := p8) (s8 := s8) (p9 := p9) (z7 := z7) (AA := BB) (post := fun r ua ub uc => bx ua ∧ (pa ub ∧ ub.2 = s6.2) ∧ (∀ k, ob (uc k))) (wq_X6_back k2 k6 k7 (fun r ua ub uc R4 W4 b0 b1 b2 b3 => ⟨⟨R4, W4, b0⟩, ⟨b1, b3⟩, b2⟩)), rfl, ?_, fun r u hu => ?_⟩
  · rw [e2]
    have hp := bk_perm (L := cb_l q a0 a1 a2 a3 a4 a5 p8 s8 p9 AA BB s1 s2 s3 s4 s5 s6 z7) (L2 := [fo_w (a0 0) (a1 0) (a2 0) (a3 0) (a4 0) (a5 0) p8 s8, bd_w a2 q s2, pa_o p8 p9 s6, pa_r s8 q 2 BB z7, ps_w q 2 BB z7, tp_w a1 q s1, bd_w a3 q s3, mo_w a4 q s4, pg_w a5 q s5, pa_r p9 q 10 AA s6.2, ps_w q 10 AA s6.2]) [0, 2, 6, 9, 10, 1, 3, 4, 5, 7, 8] (show List.Perm _ (List.range 11) by decide) rfl rfl
    refine hp.trans ?_
    simp only [List.flatten_cons, List.flatten_nil, List.append_nil, List.append_assoc]
    exact List.Perm.refl _
  · obtain ⟨g0, g1, g2⟩ := hu
    refine ⟨_, ⟨N, ⟨a0, a1, (va_up a2 12 u.2.1), a3, a4, a5, p8, s8, p9, AA, u.1, s1, u.2.2.1, s3, s4, s5, u.2.2.2.1, u.2.2.2.2, rfl, rfl, k1, g0, ⟨R3, W3, k3⟩, k4, k5, g1.1, g2⟩, rfl⟩, ?_⟩
    have hp := bk_perm (L := cb_l q a0 a1 (va_up a2 12 u.2.1) a3 a4 a5 p8 s8 p9 AA u.1 s1 u.2.2.1 s3 s4 s5 u.2.2.2.1 u.2.2.2.2) (L2 := [fo_w (a0 0) (a1 0) (a2 0) (a3 0) (a4 0) (a5 0) p8 s8, bd_w (va_up a2 12 u.2.1) q u.2.2.1, pa_o p8 p9 u.2.2.2.1, pa_r s8 q 2 u.1 u.2.2.2.2, ps_w q 2 u.1 u.2.2.2.2, tp_w a1 q s1, bd_w a3 q s3, mo_w a4 q s4, pg_w a5 q s5, pa_r p9 q 10 AA u.2.2.2.1.2, ps_w q 10 AA u.2.2.2.1.2]) [0, 2, 6, 9, 10, 1, 3, 4, 5, 7, 8] (show List.Perm _ (List.range 11) by decide) rfl rfl
    refine List.Perm.symm (hp.trans ?_)
    simp only [List.flatten_cons, List.flatten_nil, List.append_nil, List.append_assoc]
    rw [g1.2]
theorem um_cell {l : Launch} {D : va_G} {q : Nat → ClassId} {h : Nat} {w : va_W} {N : Int} {x1 x2 : Int32} (hI : c_I N q h w) : un_ri l D q 5 yX6_cell cX6_cell 3 (some .int) ({ frames := 2, cells := 0, slots := 0, locals := 42 } : Room) h [.int x1, .int x2] w (fun _ => True) := by
  obtain ⟨a0, a1, a2, a3, a4, a5, p8, s8, p9, AA, BB, s1, s2, s3, s4, s5, s6, z7, e1, e2, k1, ⟨R, W, k2⟩, ⟨R3, W3, k3⟩, k4, k5, k6, k7⟩ := hI
  subst e1
  refine ⟨_, [tp_w a1 q s1, bd_w a3 q s3, mo_w a4 q s4, pg_w a5 q s5, pa_o p8 p9 s6, pa_r p9 q 10 AA s6.2, ps_w q 10 AA s6.2, pa_r s8 q 2 BB z7, ps_w q 2 BB z7].flatten, _, c2_X6_cell (a1 := a1) (a2 := a2) (a3 := a3) (a4 := a4) (a5 := a5) (p8 := p8) (s8 := s8) (post := fun _ => True) (wq_X6_cell k2 (fun _ => trivial)), rfl, ?_⟩
  rw [e2]
  have hp := bk_perm (L := cb_l q a0 a1 a2 a3 a4 a5 p8 s8 p9 AA BB s1 s2 s3 s4 s5 s6 z7) (L2 := [fo_w (a0 0) (a1 0) (a2 0) (a3 0) (a4 0) (a5 0) p8 s8, bd_w a2 q s2, tp_w a1 q s1, bd_w a3 q s3, mo_w a4 q s4, pg_w a5 q s5, pa_o p8 p9 s6, pa_r p9 q 10 AA s6.2, ps_w q 10 AA s6.2, pa_r s8 q 2 BB z7, ps_w q 2 BB z7]) [0, 2, 1, 3, 4, 5, 6, 7, 8, 9, 10] (show List.Perm _ (List.range 11) by decide) rfl rfl
  refine hp.trans ?_
  simp only [List.flatten_cons, List.flatten_nil, List.append_nil, List.append_assoc]
  exact List.Perm.refl _
theorem um_worn {l : Launch} {D : va_G} {q : Nat → ClassId} {h : Nat} {w : va_W} {N : Int} {x1 : Int32} (hI : c_I N q h w) : un_rl l D q 5 yX6_worn cX6_worn 2 (some .long) ({ frames := 2, cells := 0, slots := 0, locals := 41 } : Room) h [.int x1] w (fun _ => True) := by
  obtain ⟨a0, a1, a2, a3, a4, a5, p8, s8, p9, AA, BB, s1, s2, s3, s4, s5, s6, z7, e1, e2, k1, ⟨R, W, k2⟩, ⟨R3, W3, k3⟩, k4, k5, k6, k7⟩ := hI
  subst e1
  refine ⟨_, [tp_w a1 q s1, bd_w a3 q s3, mo_w a4 q s4, pg_w a5 q s5, pa_o p8 p9 s6, pa_r p9 q 10 AA s6.2, ps_w q 10 AA s6.2, pa_r s8 q 2 BB z7, ps_w q 2 BB z7].flatten, _, c2_X6_worn (a1 := a1) (a2 := a2) (a3 := a3) (a4 := a4) (a5 := a5) (p8 := p8) (s8 := s8) (post := fun _ => True) (wq_X6_worn k2 (fun _ => trivial)), rfl, ?_⟩
  rw [e2]
  have hp := bk_perm (L := cb_l q a0 a1 a2 a3 a4 a5 p8 s8 p9 AA BB s1 s2 s3 s4 s5 s6 z7) (L2 := [fo_w (a0 0) (a1 0) (a2 0) (a3 0) (a4 0) (a5 0) p8 s8, bd_w a2 q s2, tp_w a1 q s1, bd_w a3 q s3, mo_w a4 q s4, pg_w a5 q s5, pa_o p8 p9 s6, pa_r p9 q 10 AA s6.2, ps_w q 10 AA s6.2, pa_r s8 q 2 BB z7, ps_w q 2 BB z7]) [0, 2, 1, 3, 4, 5, 6, 7, 8, 9, 10] (show List.Perm _ (List.range 11) by decide) rfl rfl
  refine hp.trans ?_
  simp only [List.flatten_cons, List.flatten_nil, List.append_nil, List.append_assoc]
  exact List.Perm.refl _
theorem um_drum {l : Launch} {D : va_G} {q : Nat → ClassId} {h : Nat} {w : va_W} {N : Int} {x1 x2 : Int32} (hI : c_I N q h w) : un_ri l D q 5 yX6_drum cX6_drum 3 (some .int) ({ frames := 4, cells := 0, slots := 0, locals := 93 } : Room) h [.int x1, .int x2] w (fun _ => True) := by
  obtain ⟨a0, a1, a2, a3, a4, a5, p8, s8, p9, AA, BB, s1, s2, s3, s4, s5, s6, z7, e1, e2, k1, ⟨R, W, k2⟩, ⟨R3, W3, k3⟩, k4, k5, k6, k7⟩ := hI
  subst e1
  refine ⟨_, [tp_w a1 q s1, bd_w a3 q s3, mo_w a4 q s4, pg_w a5 q s5, pa_o p8 p9 s6, pa_r p9 q 10 AA s6.2, ps_w q 10 AA s6.2, pa_r s8 q 2 BB z7, ps_w q 2 BB z7].flatten, _, c2_X6_drum (a1 := a1) (a2 := a2) (a3 := a3) (a4 := a4) (a5 := a5) (p8 := p8) (s8 := s8) (post := fun _ => True) (wq_X6_drum k2 (fun _ => trivial)), rfl, ?_⟩
  rw [e2]
  have hp := bk_perm (L := cb_l q a0 a1 a2 a3 a4 a5 p8 s8 p9 AA BB s1 s2 s3 s4 s5 s6 z7) (L2 := [fo_w (a0 0) (a1 0) (a2 0) (a3 0) (a4 0) (a5 0) p8 s8, bd_w a2 q s2, tp_w a1 q s1, bd_w a3 q s3, mo_w a4 q s4, pg_w a5 q s5, pa_o p8 p9 s6, pa_r p9 q 10 AA s6.2, ps_w q 10 AA s6.2, pa_r s8 q 2 BB z7, ps_w q 2 BB z7]) [0, 2, 1, 3, 4, 5, 6, 7, 8, 9, 10] (show List.Perm _ (List.range 11) by decide) rfl rfl
  refine hp.trans ?_
  simp only [List.flatten_cons, List.flatten_nil, List.append_nil, List.append_assoc]
  exact List.Perm.refl _
theorem um_sign {l : Launch} {D : va_G} {q : Nat → ClassId} {h : Nat} {w : va_W} {N : Int} {x1 x2 : Int32} (hI : c_I N q h w) : un_ri l D q 5 yX6_sign cX6_sign 3 (some .int) ({ frames := 1, cells := 0, slots := 0, locals := 22 } : Room) h [.int x1, .int x2] w (fun _ => True) := by
  obtain ⟨a0, a1, a2, a3, a4, a5, p8, s8, p9, AA, BB, s1, s2, s3, s4, s5, s6, z7, e1, e2, k1, ⟨R, W, k2⟩, ⟨R3, W3, k3⟩, k4, k5, k6, k7⟩ := hI
  subst e1
  refine ⟨_, [tp_w a1 q s1, bd_w a3 q s3, mo_w a4 q s4, pg_w a5 q s5, pa_o p8 p9 s6, pa_r p9 q 10 AA s6.2, ps_w q 10 AA s6.2, pa_r s8 q 2 BB z7, ps_w q 2 BB z7].flatten, _, c2_X6_sign (a1 := a1) (a2 := a2) (a3 := a3) (a4 := a4) (a5 := a5) (p8 := p8) (s8 := s8) (post := fun _ => True) (wq_X6_sign k2 (fun _ => trivial)), rfl, ?_⟩
  rw [e2]
  have hp := bk_perm (L := cb_l q a0 a1 a2 a3 a4 a5 p8 s8 p9 AA BB s1 s2 s3 s4 s5 s6 z7) (L2 := [fo_w (a0 0) (a1 0) (a2 0) (a3 0) (a4 0) (a5 0) p8 s8, bd_w a2 q s2, tp_w a1 q s1, bd_w a3 q s3, mo_w a4 q s4, pg_w a5 q s5, pa_o p8 p9 s6, pa_r p9 q 10 AA s6.2, ps_w q 10 AA s6.2, pa_r s8 q 2 BB z7, ps_w q 2 BB z7]) [0, 2, 1, 3, 4, 5, 6, 7, 8, 9, 10] (show List.Perm _ (List.range 11) by decide) rfl rfl
  refine hp.trans ?_
  simp only [List.flatten_cons, List.flatten_nil, List.append_nil, List.append_assoc]
  exact List.Perm.refl _
