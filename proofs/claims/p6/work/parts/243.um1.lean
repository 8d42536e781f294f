theorem um_at {l : Launch} {D : va_G} {q : Nat → ClassId} {h : Nat} {w : va_W} {N : Int} {x1 x2 x3 : Int32} (hI : c_I N q h w) : un_ri l D q 5 yX6_at cX6_at 5 (some .int) ({ frames := 2, cells := 0, slots := 0, locals := 44 } : Room) h [.int x1, .int x2, .int x3] w (fun _ => True) := by
  obtain ⟨a0, a1, a2, a3, a4, a5, p8, s8, p9, AA, BB, s1, s2, s3, s4, s5, s6, z7, e1, e2, k1, ⟨R, W, k2⟩, ⟨R3, W3, k3⟩, k4, k5, k6, k7⟩ := hI
  subst e1
  refine ⟨_, [tp_w a1 q s1, bd_w a3 q s3, mo_w a4 q s4, pg_w a5 q s5, pa_o p8 p9 s6, pa_r p9 q 10 AA s6.2, ps_w q 10 AA s6.2, pa_r s8 q 2 BB z7, ps_w q 2 BB z7].flatten, _, c2_X6_at (a1 := a1) (a2 := a2) (a3 := a3) (a4 := a4) (a5 := a5) (p8 := p8) (s8 := s8) (post := fun _ => True) (wq_X6_at k2 (fun _ => trivial)), rfl, ?_⟩
  rw [e2]
  have hp := bk_perm (L := cb_l q a0 a1 a2 a3 a4 a5 p8 s8 p9 AA BB s1 s2 s3 s4 s5 s6 z7) (L2 := [fo_w (a0 0) (a1 0) (a2 0) (a3 0) (a4 0) (a5 0) p8 s8, bd_w a2 q s2, tp_w a1 q s1, bd_w a3 q s3, mo_w a4 q s4, pg_w a5 q s5, pa_o p8 p9 s6, pa_r p9 q 10 AA s6.2, ps_w q 10 AA s6.2, pa_r s8 q 2 BB z7, ps_w q 2 BB z7]) [0, 2, 1, 3, 4, 5, 6, 7, 8, 9, 10] (show List.Perm _ (List.range 11) by decide) rfl rfl
  refine hp.trans ?_
  simp only [List.flatten_cons, List.flatten_nil, List.append_nil, List.append_assoc]
  exact List.Perm.refl _
theorem um_which {l : Launch} {D : va_G} {q : Nat → ClassId} {h : Nat} {w : va_W} {N : Int} {x1 : Int32} (hI : c_I N q h w) : un_l l D q 5 yX6_which cX6_which 5 (some .long) ({ frames := 5, cells := 0, slots := 0, locals := 108 } : Room) h [.int x1] 0 0 w (fun r w3 => ∃ M, c_I M q h w3 ∧ M = N) := by
  intro sz
  obtain ⟨a0, a1, a2, a3, a4, a5, p8, s8, p9, AA, BB, s1, s2, s3, s4, s5, s6, z7, e1, e2, k1, ⟨R, W, k2⟩, ⟨R3, W3, k3⟩, k4, k5, k6, k7⟩ := hI
  subst e1
  refine ⟨_, _, [tp_w a1 q s1, bd_w a3 q s3, pg_w a5 q s5, pa_o p8 p9 s6, pa_r p9 q 10 AA s6.2, ps_w q 10 AA s6.2, pa_r s8 q 2 BB z7, ps_w q 2 BB z7].flatten, _, _, _, c2_X6_which (a1 := a1) (a2 := a2) (a3 := a3) (a4 := a4) (a5 := a5) (p8 := p8) (s8 := s8) (post := fun r u => mo u) (wq_X6_which k2 k4 (fun r u b0 => b0)), rfl, ?_, fun r u hu => ?_⟩
  · rw [e2]
    have hp := bk_perm (L := cb_l q a0 a1 a2 a3 a4 a5 p8 s8 p9 AA BB s1 s2 s3 s4 s5 s6 z7) (L2 := [fo_w (a0 0) (a1 0) (a2 0) (a3 0) (a4 0) (a5 0) p8 s8, bd_w a2 q s2, mo_w a4 q s4, tp_w a1 q s1, bd_w a3 q s3, pg_w a5 q s5, pa_o p8 p9 s6, pa_r p9 q 10 AA s6.2, ps_w q 10 AA s6.2, pa_r s8 q 2 BB z7, ps_w q 2 BB z7]) [0, 2, 4, 1, 3, 5, 6, 7, 8, 9, 10] (show List.Perm _ (List.range 11) by decide) rfl rfl
    refine hp.trans ?_
    simp only [List.flatten_cons, List.flatten_nil, List.append_nil, List.append_assoc]
    exact List.Perm.refl _
  · have g0 := hu
    refine ⟨_, ⟨N, ⟨a0, a1, a2, a3, a4, a5, p8, s8, p9, AA, BB, s1, s2, s3, u, s5, s6, z7, rfl, rfl, k1, ⟨R, W, k2⟩, ⟨R3, W3, k3⟩, g0, k5, k6, k7⟩, rfl⟩, ?_⟩
    have hp := bk_perm (L := cb_l q a0 a1 a2 a3 a4 a5 p8 s8 p9 AA BB s1 s2 s3 u s5 s6 z7) (L2 := [fo_w (a0 0) (a1 0) (a2 0) (a3 0) (a4 0) (a5 0) p8 s8, bd_w a2 q s2, mo_w a4 q u, tp_w a1 q s1, bd_w a3 q s3, pg_w a5 q s5, pa_o p8 p9 s6, pa_r p9 q 10 AA s6.2, ps_w q 10 AA s6.2, pa_r s8 q 2 BB z7, ps_w q 2 BB z7]) [0, 2, 4, 1, 3, 5, 6, 7, 8, 9, 10] (show List.Perm _ (List.range 11) by decide) rfl rfl
    refine List.Perm.symm (hp.trans ?_)
    simp only [List.flatten_cons, List.flatten_nil, List.append_nil, List.append_assoc]
    exact List.Perm.refl _
theorem um_left {l : Launch} {D : va_G} {q : Nat → ClassId} {h : Nat} {w : va_W} {N : Int} {x1 : Int32} (hI : c_I N q h w) : un_ri l D q 5 yX6_left cX6_left 2 (some .int) ({ frames := 3, cells := 0, slots := 0, locals := 84 } : Room) h [.int x1] w (fun _ => True) := by
  obtain ⟨a0, a1, a2, a3, a4, a5, p8, s8, p9, AA, BB, s1, s2, s3, s4, s5, s6, z7, e1, e2, k1, ⟨R, W, k2⟩, ⟨R3, W3, k3⟩, k4, k5, k6, k7⟩ := hI
  subst e1
  refine ⟨_, [tp_w a1 q s1, bd_w a3 q s3, mo_w a4 q s4, pg_w a5 q s5, pa_o p8 p9 s6, pa_r p9 q 10 AA s6.2, ps_w q 10 AA s6.2, pa_r s8 q 2 BB z7, ps_w q 2 BB z7].flatten, _, c2_X6_left (a1 := a1) (a2 := a2) (a3 := a3) (a4 := a4) (a5 := a5) (p8 := p8) (s8 := s8) (post := fun _ => True) (wq_X6_left k2 (fun _ => trivial)), rfl, ?_⟩
  rw [e2]
  have hp := bk_perm (L := cb_l q a0 a1 a2 a3 a4 a5 p8 s8 p9 AA BB s1 s2 s3 s4 s5 s6 z7) (L2 := [fo_w (a0 0) (a1 0) (a2 0) (a3 0) (a4 0) (a5 0) p8 s8, bd_w a2 q s2, tp_w a1 q s1, bd_w a3 q s3, mo_w a4 q s4, pg_w a5 q s5, pa_o p8 p9 s6, pa_r p9 q 10 AA s6.2, ps_w q 10 AA s6.2, pa_r s8 q 2 BB z7, ps_w q 2 BB z7]) [0, 2, 1, 3, 4, 5, 6, 7, 8, 9, 10] (show List.Perm _ (List.range 11) by decide) rfl rfl
  refine hp.trans ?_
  simp only [List.flatten_cons, List.flatten_nil, List.append_nil, List.append_assoc]
  exact List.Perm.refl _
theorem um_when {l : Launch} {D : va_G} {q : Nat → ClassId} {h : Nat} {w : va_W} {N : Int} {x1 : Int32} (hI : c_I N q h w) : un_i l D q 5 yX6_when cX6_when 2 (some .int) ({ frames := 5, cells := 0, slots := 0, locals := 134 } : Room) h [.int x1] 0 0 w (fun r w3 => ∃ M, c_I M q h w3 ∧ M = N) := by
  intro sz
  obtain ⟨a0, a1, a2, a3, a4, a5, p8, s8, p9, AA, BB, s1, s2, s3, s4, s5, s6, z7, e1, e2, k1, ⟨R, W, k2⟩, ⟨R3, W3, k3⟩, k4, k5, k6, k7⟩ := hI
  subst e1
  refine ⟨_, _, [tp_w a1 q s1, pg_w a5 q s5, pa_o p8 p9 s6, pa_r p9 q 10 AA s6.2, ps_w q 10 AA s6.2, pa_r s8 q 2 BB z7, ps_w q 2 BB z7].flatten, _, _, _, c2_X6_when (a1 := a1) (a2 := a2) (a3 := a3) (a4 := a4) (a5 := a5) (p8 := p8) (s8 := s8) (post := fun r ua ub => bx ua ∧ mo ub) (wq_X6_when k2 k3 k4 (fun r ua ub R4 W4 b0 b1 => ⟨⟨R4, W4, b0⟩, b1⟩)), rfl, ?_, fun r u hu => ?_⟩
  · rw [e2]
    have hp := bk_perm (L := cb_l q a0 a1 a2 a3 a4 a5 p8 s8 p9 AA BB s1 s2 s3 s4 s5 s6 z7) (L2 := [fo_w (a0 0) (a1 0) (a2 0) (a3 0) (a4 0) (a5 0) p8 s8, bd_w a2 q s2, bd_w a3 q s3, mo_w a4 q s4, tp_w a1 q s1, pg_w a5 q s5, pa_o p8 p9 s6, pa_r p9 q 10 AA s6.2, ps_w q 10 AA s6.2, pa_r s8 q 2 BB z7, ps_w q 2 BB z7]) [0, 2, 3, 4, 1, 5, 6, 7, 8, 9, 10] (show List.Perm _ (List.range 11) by decide) rfl rfl
    refine hp.trans ?_
    simp only [List.flatten_cons, List.flatten_nil, List.append_nil, List.append_assoc]
    exact List.Perm.refl _
  · obtain ⟨g0, g1⟩ := hu
    refine ⟨_, ⟨N, ⟨a0, a1, a2, a3, a4, a5, p8, s8, p9, AA, BB, s1, s2, u.1, u.2, s5, s6, z7, rfl, rfl, k1, ⟨R, W, k2⟩, g0, g1, k5, k6, k7⟩, rfl⟩, ?_⟩
    have hp := bk_perm (L := cb_l q a0 a1 a2 a3 a4 a5 p8 s8 p9 AA BB s1 s2 u.1 u.2 s5 s6 z7) (L2 := [fo_w (a0 0) (a1 0) (a2 0) (a3 0) (a4 0) (a5 0) p8 s8, bd_w a2 q s2, bd_w a3 q u.1, mo_w a4 q u.2, tp_w a1 q s1, pg_w a5 q s5, pa_o p8 p9 s6, pa_r p9 q 10 AA s6.2, ps_w q 10 AA s6.2, pa_r s8 q 2 BB z7, ps_w q 2 BB z7]) [0, 2, 3, 4, 1, 5, 6, 7, 8, 9, 10] (show List.Perm _ (List.range 11) by decide) rfl rfl
    refine List.Perm.symm (hp.trans ?_)
    simp only [List.flatten_cons, List.flatten_nil, List.append_nil, List.append_assoc]
    exact List.Perm.refl _
theorem um_loudest {l : Launch} {D : va_G} {q : Nat → ClassId} {h : Nat} {w : va_W} {N : Int} {x1 : Int32} (hI : c_I N q h w) : un_i l D q 5 yX6_loudest cX6_loudest 2 (some .int) ({ frames := 5, cells := 0, slots := 0, locals := 134 } : Room) h [.int x1] 0 0 w (fun r w3 => ∃ M, c_I M q h w3 ∧ M = N) := by
  intro sz
  obtain ⟨a0, a1, a2, a3, a4, a5, p8, s8, p9, AA, BB, s1, s2, s3, s4, s5, s6, z7, e1, e2, k1, ⟨R, W, k2⟩, ⟨R3, W3, k3⟩, k4, k5, k6, k7⟩ := hI
  subst e1
  refine ⟨_, _, [tp_w a1 q s1, pg_w a5 q s5, pa_o p8 p9 s6, pa_r p9 q 10 AA s6.2, ps_w q 10 AA s6.2, pa_r s8 q 2 BB z7, ps_w q 2 BB z7].flatten, _, _, _, c2_X6_loudest (a1 := a1) (a2 := a2) (a3 := a3) (a4 := a4) (a5 := a5) (p8 := p8) (s8 := s8) (post := fun r ua ub => bx ua ∧ mo ub) (wq_X6_loudest k2 k3 k4 (fun r ua ub R4 W4 b0 b1 => ⟨⟨R4, W4, b0⟩, b1⟩)), rfl, ?_, fun r u hu => ?_⟩
  · rw [e2]
    have hp := bk_perm (L := cb_l q a0 a1 a2 a3 a4 a5 p8 s8 p9 AA BB s1 s2 s3 s4 s5 s6 z7) (L2 := [fo_w (a0 0) (a1 0) (a2 0) (a3 0) (a4 0) (a5 0) p8 s8, bd_w a2 q s2, bd_w a3 q s3, mo_w a4 q s4, tp_w a1 q s1, pg_w a5 q s5, pa_o p8 p9 s6, pa_r p9 q 10 AA s6.2, ps_w q 10 AA s6.2, pa_r s8 q 2 BB z7, ps_w q 2 BB z7]) [0, 2, 3, 4, 1, 5, 6, 7, 8, 9, 10] (show List.Perm _ (List.range 11) by decide) rfl rfl
    refine hp.trans ?_
    simp only [List.flatten_cons, List.flatten_nil, List.append_nil, List.append_assoc]
    exact List.Perm.refl _
  · obtain ⟨g0, g1⟩ := hu
    refine ⟨_, ⟨N, ⟨a0, a1, a2, a3, a4, a5, p8, s8, p9, AA, BB, s1, s2, u.1, u.2, s5, s6, z7, rfl, rfl, k1, ⟨R, W, k2⟩, g0, g1, k5, k6, k7⟩, rfl⟩, ?_⟩
    have hp := bk_perm (L := cb_l q a0 a1 a2 a3 a4 a5 p8 s8 p9 AA BB s1 s2 u.1 u.2 s5 s6 z7) (L2 := [fo_w (a0 0) (a1 0) (a2 0) (a3 0) (a4 0) (a5 0) p8 s8, bd_w a2 q s2, bd_w a3 q u.1, mo_w a4 q u.2, tp_w a1 q s1, pg_w a5 q s5, pa_o p8 p9 s6, pa_r p9 q 10 AA s6.2, ps_w q 10 AA s6.2, pa_r s8 q 2 BB z7, ps_w q 2 BB z7]) [0, 2, 3, 4, 1, 5, 6, 7, 8, 9, 10] (show List.Perm _ (List.range 11) by decide) rfl rfl
    refine List.Perm.symm (hp.trans ?_)
    simp only [List.flatten_cons, List.flatten_nil, List.append_nil, List.append_assoc]
    exact List.Perm.refl _
theorem um_total {l : Launch} {D : va_G} {q : Nat → ClassId} {h : Nat} {w : va_W} {N : Int} {x1 : Int32} (hI : c_I N q h w) : un_ri l D q 5 yX6_total cX6_total 2 (some .int) ({ frames := 2, cells := 0, slots := 0, locals := 43 } : Room) h [.int x1] w (fun _ => True) := by
  obtain ⟨a0, a1, a2, a3, a4, a5, p8, s8, p9, AA, BB, s1, s2, s3, s4, s5, s6, z7, e1, e2, k1, ⟨R, W, k2⟩, ⟨R3, W3, k3⟩, k4, k5, k6, k7⟩ := hI
  subst e1
  refine ⟨_, [tp_w a1 q s1, bd_w a3 q s3, mo_w a4 q s4, pg_w a5 q s5, pa_o p8 p9 s6, pa_r p9 q 10 AA s6.2, ps_w q 10 AA s6.2, pa_r s8 q 2 BB z7, ps_w q 2 BB z7].flatten, _, c2_X6_total (a1 := a1) (a2 := a2) (a3 := a3) (a4 := a4) (a5 := a5) (p8 := p8) (s8 := s8) (post := fun _ => True) (wq_X6_total k2 (fun _ => trivial)), rfl, ?_⟩
  rw [e2]
  have hp := bk_perm (L := cb_l q a0 a1 a2 a3 a4 a5 p8 s8 p9 AA BB s1 s2 s3 s4 s5 s6 z7) (L2 := [fo_w (a0 0) (a1 0) (a2 0) (a3 0) (a4 0) (a5 0) p8 s8, bd_w a2 q s2, tp_w a1 q s1, bd_w a3 q s3, mo_w a4 q s4, pg_w a5 q s5, pa_o p8 p9 s6, pa_r p9 q 10 AA s6.2, ps_w q 10 AA s6.2, pa_r s8 q 2 BB z7, ps_w q 2 BB z7]) [0, 2, 1, 3, 4, 5, 6, 7, 8, 9, 10] (show List.Perm _ (List.range 11) by decide) rfl rfl
  refine hp.trans ?_
  simp only [List.flatten_cons, List.flatten_nil, List.append_nil, List.append_assoc]
  exact List.Perm.refl _
theorem um_cost {l : Launch} {D : va_G} {q : Nat → ClassId} {h : Nat} {w : va_W} {N : Int} {x1 : Int32} (hI : c_I N q h w) : un_ri l D q 5 yX6_cost cX6_cost 3 (some .int) ({ frames := 3, cells := 0, slots := 0, locals := 83 } : Room) h [.int x1] w (fun _ => True) := by
  obtain ⟨a0, a1, a2, a3, a4, a5, p8, s8, p9, AA, BB, s1, s2, s3, s4, s5, s6, z7, e1, e2, k1, ⟨R, W, k2⟩, ⟨R3, W3, k3⟩, k4, k5, k6, k7⟩ := hI
  subst e1
  refine ⟨_, [bd_w a3 q s3, mo_w a4 q s4, pg_w a5 q s5, pa_o p8 p9 s6, pa_r p9 q 10 AA s6.2, ps_w q 10 AA s6.2, pa_r s8 q 2 BB z7, ps_w q 2 BB z7].flatten, _, c2_X6_cost (a1 := a1) (a2 := a2) (a3 := a3) (a4 := a4) (a5 := a5) (p8 := p8) (s8 := s8) (post := fun _ => True) (wq_X6_cost k1 k2 (fun _ => trivial)), rfl, ?_⟩
  rw [e2]
  have hp := bk_perm (L := cb_l q a0 a1 a2 a3 a4 a5 p8 s8 p9 AA BB s1 s2 s3 s4 s5 s6 z7) (L2 := [fo_w (a0 0) (a1 0) (a2 0) (a3 0) (a4 0) (a5 0) p8 s8, tp_w a1 q s1, bd_w a2 q s2, bd_w a3 q s3, mo_w a4 q s4, pg_w a5 q s5, pa_o p8 p9 s6, pa_r p9 q 10 AA s6.2, ps_w q 10 AA s6.2, pa_r s8 q 2 BB z7, ps_w q 2 BB z7]) [0, 1, 2, 3, 4, 5, 6, 7, 8, 9, 10] (show List.Perm _ (List.range 11) by decide) rfl rfl
  refine hp.trans ?_
  simp only [List.flatten_cons, List.flatten_nil, List.append_nil, List.append_assoc]
  exact List.Perm.refl _
theorem um_best {l : Launch} {D : va_G} {q : Nat → ClassId} {h : Nat} {w : va_W} {N : Int} {x1 x2 : Int32} (hI : c_I N q h w) : un_ri l D q 5 yX6_best cX6_best 12 (some .int) ({ frames := 3, cells := 0, slots := 0, locals := 83 } : Room) h [.int x1, .int x2] w (fun _ => True) := by
  obtain ⟨a0, a1, a2, a3, a4, a5, p8, s8, p9, AA, BB, s1, s2, s3, s4, s5, s6, z7, e1, e2, k1, ⟨R, W, k2⟩, ⟨R3, W3, k3⟩, k4, k5, k6, k7⟩ := hI
  subst e1
  refine ⟨_, [bd_w a3 q s3, mo_w a4 q s4, pg_w a5 q s5, pa_o p8 p9 s6, pa_r p9 q 10 AA s6.2, ps_w q 10 AA s6.2, pa_r s8 q 2 BB z7, ps_w q 2 BB z7].flatten, _, c2_X6_best (a1 := a1) (a2 := a2) (a3 := a3) (a4 := a4) (a5 := a5) (p8 := p8) (s8 := s8) (post := fun _ => True) (wq_X6_best k1 k2 (fun _ => trivial)), rfl, ?_⟩
  rw [e2]
  have hp := bk_perm (L := cb_l q a0 a1 a2 a3 a4 a5 p8 s8 p9 AA BB s1 s2 s3 s4 s5 s6 z7) (L2 := [fo_w (a0 0) (a1 0) (a2 0) (a3 0) (a4 0) (a5 0) p8 s8, tp_w a1 q s1, bd_w a2 q s2, bd_w a3 q s3, mo_w a4 q s4, pg_w a5 q s5, pa_o p8 p9 s6, pa_r p9 q 10 AA s6.2, ps_w q 10 AA s6.2, pa_r s8 q 2 BB z7, ps_w q 2 BB z7]) [0, 1, 2, 3, 4, 5, 6, 7, 8, 9, 10] (show List.Perm _ (List.range 11) by decide) rfl rfl
  refine hp.trans ?_
  simp only [List.flatten_cons, List.flatten_nil, List.append_nil, List.append_assoc]
  exact List.Perm.refl _
theorem um_place {l : Launch} {D : va_G} {q : Nat → ClassId} {h : Nat} {w : va_W} {N : Int} {x1 x2 : Int32} (hI : c_I N q h w) : un_ri l D q 5 yX6_place cX6_place 10 (some .int) ({ frames := 3, cells := 0, slots := 0, locals := 83 } : Room) h [.int x1, .int x2] w (fun _ => True) := by
  obtain ⟨a0, a1, a2, a3, a4, a5, p8, s8, p9, AA, BB, s1, s2, s3, s4, s5, s6, z7, e1, e2, k1, ⟨R, W, k2⟩, ⟨R3, W3, k3⟩, k4, k5, k6, k7⟩ := hI
  subst e1
  refine ⟨_, [bd_w a3 q s3, mo_w a4 q s4, pg_w a5 q s5, pa_o p8 p9 s6, pa_r p9 q 10 AA s6.2, ps_w q 10 AA s6.2, pa_r s8 q 2 BB z7, ps_w q 2 BB z7].flatten, _, c2_X6_place (a1 := a1) (a2 := a2) (a3 := a3) (a4 := a4) (a5 := a5) (p8 := p8) (s8 := s8) (post := fun _ => True) (wq_X6_place k1 k2 (fun _ => trivial)), rfl, ?_⟩
  rw [e2]
  have hp := bk_perm (L := cb_l q a0 a1 a2 a3 a4 a5 p8 s8 p9 AA BB s1 s2 s3 s4 s5 s6 z7) (L2 := [fo_w (a0 0) (a1 0) (a2 0) (a3 0) (a4 0) (a5 0) p8 s8, tp_w a1 q s1, bd_w a2 q s2, bd_w a3 q s3, mo_w a4 q s4, pg_w a5 q s5, pa_o p8 p9 s6, pa_r p9 q 10 AA s6.2, ps_w q 10 AA s6.2, pa_r s8 q 2 BB z7, ps_w q 2 BB z7]) [0, 1, 2, 3, 4, 5, 6, 7, 8, 9, 10] (show List.Perm _ (List.range 11) by decide) rfl rfl
  refine hp.trans ?_
  simp only [List.flatten_cons, List.flatten_nil, List.append_nil, List.append_assoc]
  exact List.Perm.refl _
theorem um_log {l : Launch} {D : va_G} {q : Nat → ClassId} {h : Nat} {w : va_W} {N : Int} {x1 x2 : Int32} (hI : c_I N q h w) : un_ri l D q 5 yX6_log cX6_log 3 (some .int) ({ frames := 3, cells := 0, slots := 0, locals := 75 } : Room) h [.int x1, .int x2] w (fun _ => True) := by
  obtain ⟨a0, a1, a2, a3, a4, a5, p8, s8, p9, AA, BB, s1, s2, s3, s4, s5, s6, z7, e1, e2, k1, ⟨R, W, k2⟩, ⟨R3, W3, k3⟩, k4, k5, k6, k7⟩ := hI
  subst e1
  refine ⟨_, [tp_w a1 q s1, bd_w a3 q s3, mo_w a4 q s4, pg_w a5 q s5, pa_o p8 p9 s6, pa_r p9 q 10 AA s6.2, ps_w q 10 AA s6.2, pa_r s8 q 2 BB z7, ps_w q 2 BB z7].flatten, _, c2_X6_log (a1 := a1) (a2 := a2) (a3 := a3) (a4 := a4) (a5 := a5) (p8 := p8) (s8 := s8) (post := fun _ => True) (wq_X6_log k2 (fun _ => trivial)), rfl, ?_⟩
  rw [e2]
  have hp := bk_perm (L := cb_l q a0 a1 a2 a3 a4 a5 p8 s8 p9 AA BB s1 s2 s3 s4 s5 s6 z7) (L2 := [fo_w (a0 0) (a1 0) (a2 0) (a3 0) (a4 0) (a5 0) p8 s8, bd_w a2 q s2, tp_w a1 q s1, bd_w a3 q s3, mo_w a4 q s4, pg_w a5 q s5, pa_o p8 p9 s6, pa_r p9 q 10 AA s6.2, ps_w q 10 AA s6.2, pa_r s8 q 2 BB z7, ps_w q 2 BB z7]) [0, 2, 1, 3, 4, 5, 6, 7, 8, 9, 10] (show List.Perm _ (List.range 11) by decide) rfl rfl
  refine hp.trans ?_
  simp only [List.flatten_cons, List.flatten_nil, List.append_nil, List.append_assoc]
  exact List.Perm.refl _
theorem um_often {l : Launch} {D : va_G} {q : Nat → ClassId} {h : Nat} {w : va_W} {N : Int} {x1 x2 x3 : Int32} (hI : c_I N q h w) : un_ri l D q 5 yX6_often cX6_often 4 (some .int) ({ frames := 2, cells := 0, slots := 0, locals := 52 } : Room) h [.int x1, .int x2, .int x3] w (fun _ => True) := by
  obtain ⟨a0, a1, a2, a3, a4, a5, p8, s8, p9, AA, BB, s1, s2, s3, s4, s5, s6, z7, e1, e2, k1, ⟨R, W, k2⟩, ⟨R3, W3, k3⟩, k4, k5, k6, k7⟩ := hI
  subst e1
  refine ⟨_, [tp_w a1 q s1, bd_w a3 q s3, mo_w a4 q s4, pg_w a5 q s5, pa_o p8 p9 s6, pa_r p9 q 10 AA s6.2, ps_w q 10 AA s6.2, pa_r s8 q 2 BB z7, ps_w q 2 BB z7].flatten, _, c2_X6_often (a1 := a1) (a2 := a2) (a3 := a3) (a4 := a4) (a5 := a5) (p8 := p8) (s8 := s8) (post := fun _ => True) (wq_X6_often k2 (fun _ => trivial)), rfl, ?_⟩
  rw [e2]
  have hp := bk_perm (L := cb_l q a0 a1 a2 a3 a4 a5 p8 s8 p9 AA BB s1 s2 s3 s4 s5 s6 z7) (L2 := [fo_w (a0 0) (a1 0) (a2 0) (a3 0) (a4 0) (a5 0) p8 s8, bd_w a2 q s2, tp_w a1 q s1, bd_w a3 q s3, mo_w a4 q s4, pg_w a5 q s5, pa_o p8 p9 s6, pa_r p9 q 10 AA s6.2, ps_w q 10 AA s6.2, pa_r s8 q 2 BB z7, ps_w q 2 BB z7]) [0, 2, 1, 3, 4, 5, 6, 7, 8, 9, 10] (show List.Perm _ (List.range 11) by decide) rfl rfl
  refine hp.trans ?_
  simp only [List.flatten_cons, List.flatten_nil, List.append_nil, List.append_assoc]
  exact List.Perm.refl _
theorem um_usual {l : Launch} {D : va_G} {q : Nat → ClassId} {h : Nat} {w : va_W} {N : Int} {x1 x2 : Int32} (hI : c_I N q h w) : un_ri l D q 5 yX6_usual cX6_usual 7 (some .int) ({ frames := 2, cells := 0, slots := 0, locals := 52 } : Room) h [.int x1, .int x2] w (fun _ => True) := by
  obtain ⟨a0, a1, a2, a3, a4, a5, p8, s8, p9, AA, BB, s1, s2, s3, s4, s5, s6, z7, e1, e2, k1, ⟨R, W, k2⟩, ⟨R3, W3, k3⟩, k4, k5, k6, k7⟩ := hI
  subst e1
  refine ⟨_, [tp_w a1 q s1, bd_w a3 q s3, mo_w a4 q s4, pg_w a5 q s5, pa_o p8 p9 s6, pa_r p9 q 10 AA s6.2, ps_w q 10 AA s6.2, pa_r s8 q 2 BB z7, ps_w q 2 BB z7].flatten, _, c2_X6_usual (a1 := a1) (a2 := a2) (a3 := a3) (a4 := a4) (a5 := a5) (p8 := p8) (s8 := s8) (post := fun _ => True) (wq_X6_usual k2 (fun _ => trivial)), rfl, ?_⟩
  rw [e2]
  have hp := bk_perm (L := cb_l q a0 a1 a2 a3 a4 a5 p8 s8 p9 AA BB s1 s2 s3 s4 s5 s6 z7) (L2 := [fo_w (a0 0) (a1 0) (a2 0) (a3 0) (a4 0) (a5 0) p8 s8, bd_w a2 q s2, tp_w a1 q s1, bd_w a3 q s3, mo_w a4 q s4, pg_w a5 q s5, pa_o p8 p9 s6, pa_r p9 q 10 AA s6.2, ps_w q 10 AA s6.2, pa_r s8 q 2 BB z7, ps_w q 2 BB z7]) [0, 2, 1, 3, 4, 5, 6, 7, 8, 9, 10] (show List.Perm _ (List.range 11) by decide) rfl rfl
  refine hp.trans ?_
  simp only [List.flatten_cons, List.flatten_nil, List.append_nil, List.append_assoc]
  exact List.Perm.refl _
theorem um_better {l : Launch} {D : va_G} {q : Nat → ClassId} {h : Nat} {w : va_W} {N : Int} {x1 x2 : Int32} (hI : c_I N q h w) : un_ri l D q 5 yX6_better cX6_better 10 (some .int) ({ frames := 2, cells := 0, slots := 0, locals := 55 } : Room) h [.int x1, .int x2] w (fun _ => True) := by
  obtain ⟨a0, a1, a2, a3, a4, a5, p8, s8, p9, AA, BB, s1, s2, s3, s4, s5, s6, z7, e1, e2, k1, ⟨R, W, k2⟩, ⟨R3, W3, k3⟩, k4, k5, k6, k7⟩ := hI
  subst e1
  refine ⟨_, [tp_w a1 q s1, bd_w a3 q s3, mo_w a4 q s4, pg_w a5 q s5, pa_o p8 p9 s6, pa_r p9 q 10 AA s6.2, ps_w q 10 AA s6.2, pa_r s8 q 2 BB z7, ps_w q 2 BB z7].flatten, _, c2_X6_better (a1 := a1) (a2 := a2) (a3 := a3) (a4 := a4) (a5 := a5) (p8 := p8) (s8 := s8) (post := fun _ => True) (wq_X6_better k2 (fun _ => trivial)), rfl, ?_⟩
  rw [e2]
  have hp := bk_perm (L := cb_l q a0 a1 a2 a3 a4 a5 p8 s8 p9 AA BB s1 s2 s3 s4 s5 s6 z7) (L2 := [fo_w (a0 0) (a1 0) (a2 0) (a3 0) (a4 0) (a5 0) p8 s8, bd_w a2 q s2, tp_w a1 q s1, bd_w a3 q s3, mo_w a4 q s4, pg_w a5 q s5, pa_o p8 p9 s6, pa_r p9 q 10 AA s6.2, ps_w q 10 AA s6.2, pa_r s8 q 2 BB z7, ps_w q 2 BB z7]) [0, 2, 1, 3, 4, 5, 6, 7, 8, 9, 10] (show List.Perm _ (List.range 11) by decide) rfl rfl
  refine hp.trans ?_
  simp only [List.flatten_cons, List.flatten_nil, List.append_nil, List.append_assoc]
  exact List.Perm.refl _
theorem um_farthest {l : Launch} {D : va_G} {q : Nat → ClassId} {h : Nat} {w : va_W} {N : Int} {x1 x2 : Int32} (hI : c_I N q h w) : un_ri l D q 5 yX6_farthest cX6_farthest 8 (some .int) ({ frames := 2, cells := 0, slots := 0, locals := 44 } : Room) h [.int x1, .int x2] w (fun _ => True) := by
  obtain ⟨a0, a1, a2, a3, a4, a5, p8, s8, p9, AA, BB, s1, s2, s3, s4, s5, s6, z7, e1, e2, k1, ⟨R, W, k2⟩, ⟨R3, W3, k3⟩, k4, k5, k6, k7⟩ := hI
  subst e1
  refine ⟨_, [tp_w a1 q s1, bd_w a3 q s3, mo_w a4 q s4, pg_w a5 q s5, pa_o p8 p9 s6, pa_r p9 q 10 AA s6.2, ps_w q 10 AA s6.2, pa_r s8 q 2 BB z7, ps_w q 2 BB z7].flatten, _, c2_X6_farthest (a1 := a1) (a2 := a2) (a3 := a3) (a4 := a4) (a5 := a5) (p8 := p8) (s8 := s8) (post := fun _ => True) (wq_X6_farthest k2 (fun _ => trivial)), rfl, ?_⟩
  rw [e2]
  have hp := bk_perm (L := cb_l q a0 a1 a2 a3 a4 a5 p8 s8 p9 AA BB s1 s2 s3 s4 s5 s6 z7) (L2 := [fo_w (a0 0) (a1 0) (a2 0) (a3 0) (a4 0) (a5 0) p8 s8, bd_w a2 q s2, tp_w a1 q s1, bd_w a3 q s3, mo_w a4 q s4, pg_w a5 q s5, pa_o p8 p9 s6, pa_r p9 q 10 AA s6.2, ps_w q 10 AA s6.2, pa_r s8 q 2 BB z7, ps_w q 2 BB z7]) [0, 2, 1, 3, 4, 5, 6, 7, 8, 9, 10] (show List.Perm _ (List.range 11) by decide) rfl rfl
  refine hp.trans ?_
  simp only [List.flatten_cons, List.flatten_nil, List.append_nil, List.append_assoc]
  exact List.Perm.refl _
theorem um_lacks {l : Launch} {D : va_G} {q : Nat → ClassId} {h : Nat} {w : va_W} {N : Int} {x1 x2 : Int32} (hI : c_I N q h w) : un_ri l D q 5 yX6_lacks cX6_lacks 3 (some .int) ({ frames := 5, cells := 0, slots := 0, locals := 115 } : Room) h [.int x1, .int x2] w (fun _ => True) := by
  obtain ⟨a0, a1, a2, a3, a4, a5, p8, s8, p9, AA, BB, s1, s2, s3, s4, s5, s6, z7, e1, e2, k1, ⟨R, W, k2⟩, ⟨R3, W3, k3⟩, k4, k5, k6, k7⟩ := hI
  subst e1
  refine ⟨_, [tp_w a1 q s1, bd_w a3 q s3, mo_w a4 q s4, pg_w a5 q s5, pa_o p8 p9 s6, pa_r p9 q 10 AA s6.2, ps_w q 10 AA s6.2, pa_r s8 q 2 BB z7, ps_w q 2 BB z7].flatten, _, c2_X6_lacks (a1 := a1) (a2 := a2) (a3 := a3) (a4 := a4) (a5 := a5) (p8 := p8) (s8 := s8) (post := fun _ => True) (wq_X6_lacks k2 (fun _ => trivial)), rfl, ?_⟩
  rw [e2]
  have hp := bk_perm (L := cb_l q a0 a1 a2 a3 a4 a5 p8 s8 p9 AA BB s1 s2 s3 s4 s5 s6 z7) (L2 := [fo_w (a0 0) (a1 0) (a2 0) (a3 0) (a4 0) (a5 0) p8 s8, bd_w a2 q s2, tp_w a1 q s1, bd_w a3 q s3, mo_w a4 q s4, pg_w a5 q s5, pa_o p8 p9 s6, pa_r p9 q 10 AA s6.2, ps_w q 10 AA s6.2, pa_r s8 q 2 BB z7, ps_w q 2 BB z7]) [0, 2, 1, 3, 4, 5, 6, 7, 8, 9, 10] (show List.Perm _ (List.range 11) by decide) rfl rfl
  refine hp.trans ?_
  simp only [List.flatten_cons, List.flatten_nil, List.append_nil, List.append_assoc]
  exact List.Perm.refl _
theorem um_rests {l : Launch} {D : va_G} {q : Nat → ClassId} {h : Nat} {w : va_W} {N : Int} {x1 : Int32} (hI : c_I N q h w) : un_i l D q 5 yX6_rests cX6_rests 3 (some .int) ({ frames := 4, cells := 0, slots := 0, locals := 114 } : Room) h [.int x1] 0 0 w (fun r w3 => ∃ M, c_I M q h w3 ∧ M = N) := by
  intro sz
  obtain ⟨a0, a1, a2, a3, a4, a5, p8, s8, p9, AA, BB, s1, s2, s3, s4, s5, s6, z7, e1, e2, k1, ⟨R, W, k2⟩, ⟨R3, W3, k3⟩, k4, k5, k6, k7⟩ := hI
  subst e1
  refine ⟨_, _, [tp_w a1 q s1, pg_w a5 q s5, pa_o p8 p9 s6, pa_r p9 q 10 AA s6.2, ps_w q 10 AA s6.2, pa_r s8 q 2 BB z7, ps_w q 2 BB z7].flatten, _, _, _, c2_X6_rests (a1 := a1) (a2 := a2) (a3 := a3) (a4 := a4) (a5 := a5) (p8 := p8) (s8 := s8) (post := fun r ua ub => bx ua ∧ mo ub) (wq_X6_rests k2 k3 k4 (fun r ua ub R4 W4 b0 b1 => ⟨⟨R4, W4, b0⟩, b1⟩)), rfl, ?_, fun r u hu => ?_⟩
  · rw [e2]
    have hp := bk_perm (L := cb_l q a0 a1 a2 a3 a4 a5 p8 s8 p9 AA BB s1 s2 s3 s4 s5 s6 z7) (L2 := [fo_w (a0 0) (a1 0) (a2 0) (a3 0) (a4 0) (a5 0) p8 s8, bd_w a2 q s2, bd_w a3 q s3, mo_w a4 q s4, tp_w a1 q s1, pg_w a5 q s5, pa_o p8 p9 s6, pa_r p9 q 10 AA s6.2, ps_w q 10 AA s6.2, pa_r s8 q 2 BB z7, ps_w q 2 BB z7]) [0, 2, 3, 4, 1, 5, 6, 7, 8, 9, 10] (show List.Perm _ (List.range 11) by decide) rfl rfl
    refine hp.trans ?_
    simp only [List.flatten_cons, List.flatten_nil, List.append_nil, List.append_assoc]
    exact List.Perm.refl _
  · obtain ⟨g0, g1⟩ := hu
    refine ⟨_, ⟨N, ⟨a0, a1, a2, a3, a4, a5, p8, s8, p9, AA, BB, s1, s2, u.1, u.2, s5, s6, z7, rfl, rfl, k1, ⟨R, W, k2⟩, g0, g1, k5, k6, k7⟩, rfl⟩, ?_⟩
    have hp := bk_perm (L := cb_l q a0 a1 a2 a3 a4 a5 p8 s8 p9 AA BB s1 s2 u.1 u.2 s5 s6 z7) (L2 := [fo_w (a0 0) (a1 0) (a2 0) (a3 0) (a4 0) (a5 0) p8 s8, bd_w a2 q s2, bd_w a3 q u.1, mo_w a4 q u.2, tp_w a1 q s1, pg_w a5 q s5, pa_o p8 p9 s6, pa_r p9 q 10 AA s6.2, ps_w q 10 AA s6.2, pa_r s8 q 2 BB z7, ps_w q 2 BB z7]) [0, 2, 3, 4, 1, 5, 6, 7, 8, 9, 10] (show List.Perm _ (List.range 11) by decide) rfl rfl
    refine List.Perm.symm (hp.trans ?_)
    simp only [List.flatten_cons, List.flatten_nil, List.append_nil, List.append_assoc]
    exact List.Perm.refl _
theorem um_unlike {l : Launch} {D : va_G} {q : Nat → ClassId} {h : Nat} {w : va_W} {N : Int} {x1 x2 : Int32} (hI : c_I N q h w) : un_ri l D q 5 yX6_unlike cX6_unlike 7 (some .int) ({ frames := 3, cells := 0, slots := 0, locals := 65 } : Room) h [.int x1, .int x2] w (fun _ => True) := by
  obtain ⟨a0, a1, a2, a3, a4, a5, p8, s8, p9, AA, BB, s1, s2, s3, s4, s5, s6, z7, e1, e2, k1, ⟨R, W, k2⟩, ⟨R3, W3, k3⟩, k4, k5, k6, k7⟩ := hI
  subst e1
  refine ⟨_, [tp_w a1 q s1, bd_w a3 q s3, mo_w a4 q s4, pg_w a5 q s5, pa_o p8 p9 s6, pa_r p9 q 10 AA s6.2, ps_w q 10 AA s6.2, pa_r s8 q 2 BB z7, ps_w q 2 BB z7].flatten, _, c2_X6_unlike (a1 := a1) (a2 := a2) (a3 := a3) (a4 := a4) (a5 := a5) (p8 := p8) (s8 := s8) (post := fun _ => True) (wq_X6_unlike k2 (fun _ => trivial)), rfl, ?_⟩
  rw [e2]
  have hp := bk_perm (L := cb_l q a0 a1 a2 a3 a4 a5 p8 s8 p9 AA BB s1 s2 s3 s4 s5 s6 z7) (L2 := [fo_w (a0 0) (a1 0) (a2 0) (a3 0) (a4 0) (a5 0) p8 s8, bd_w a2 q s2, tp_w a1 q s1, bd_w a3 q s3, mo_w a4 q s4, pg_w a5 q s5, pa_o p8 p9 s6, pa_r p9 q 10 AA s6.2, ps_w q 10 AA s6.2, pa_r s8 q 2 BB z7, ps_w q 2 BB z7]) [0, 2, 1, 3, 4, 5, 6, 7, 8, 9, 10] (show List.Perm _ (List.range 11) by decide) rfl rfl
  refine hp.trans ?_
  simp only [List.flatten_cons, List.flatten_nil, List.append_nil, List.append_assoc]
  exact List.Perm.refl _
theorem um_letter {l : Launch} {D : va_G} {q : Nat → ClassId} {h : Nat} {w : va_W} {N : Int} {x1 x2 : Int32} (hI : c_I N q h w) : un_ri l D q 5 yX6_letter cX6_letter 6 (some .int) ({ frames := 2, cells := 0, slots := 0, locals := 44 } : Room) h [.int x1, .int x2] w (fun _ => True) := by
  obtain ⟨a0, a1, a2, a3, a4, a5, p8, s8, p9, AA, BB, s1, s2, s3, s4, s5, s6, z7, e1, e2, k1, ⟨R, W, k2⟩, ⟨R3, W3, k3⟩, k4, k5, k6, k7⟩ := hI
  subst e1
  refine ⟨_, [tp_w a1 q s1, bd_w a3 q s3, mo_w a4 q s4, pg_w a5 q s5, pa_o p8 p9 s6, pa_r p9 q 10 AA s6.2, ps_w q 10 AA s6.2, pa_r s8 q 2 BB z7, ps_w q 2 BB z7].flatten, _, c2_X6_letter (a1 := a1) (a2 := a2) (a3 := a3) (a4 := a4) (a5 := a5) (p8 := p8) (s8 := s8) (post := fun _ => True) (wq_X6_letter k2 (fun _ => trivial)), rfl, ?_⟩
  rw [e2]
  have hp := bk_perm (L := cb_l q a0 a1 a2 a3 a4 a5 p8 s8 p9 AA BB s1 s2 s3 s4 s5 s6 z7) (L2 := [fo_w (a0 0) (a1 0) (a2 0) (a3 0) (a4 0) (a5 0) p8 s8, bd_w a2 q s2, tp_w a1 q s1, bd_w a3 q s3, mo_w a4 q s4, pg_w a5 q s5, pa_o p8 p9 s6, pa_r p9 q 10 AA s6.2, ps_w q 10 AA s6.2, pa_r s8 q 2 BB z7, ps_w q 2 BB z7]) [0, 2, 1, 3, 4, 5, 6, 7, 8, 9, 10] (show List.Perm _ (List.range 11) by decide) rfl rfl
  refine hp.trans ?_
  simp only [List.flatten_cons, List.flatten_nil, List.append_nil, List.append_assoc]
  exact List.Perm.refl _
theorem um_digest {l : Launch} {D : va_G} {q : Nat → ClassId} {h : Nat} {w : va_W} {N : Int} (hI : c_I N q h w) : un_rl l D q 5 yX6_digest cX6_digest 4 (some .long) ({ frames := 1, cells := 0, slots := 0, locals := 20 } : Room) h [] w (fun _ => True) := by
  obtain ⟨a0, a1, a2, a3, a4, a5, p8, s8, p9, AA, BB, s1, s2, s3, s4, s5, s6, z7, e1, e2, k1, ⟨R, W, k2⟩, ⟨R3, W3, k3⟩, k4, k5, k6, k7⟩ := hI
  subst e1
  refine ⟨_, [tp_w a1 q s1, bd_w a3 q s3, mo_w a4 q s4, pg_w a5 q s5, pa_o p8 p9 s6, pa_r p9 q 10 AA s6.2, ps_w q 10 AA s6.2, pa_r s8 q 2 BB z7, ps_w q 2 BB z7].flatten, _, c2_X6_digest (a1 := a1) (a2 := a2) (a3 := a3) (a4 := a4) (a5 := a5) (p8 := p8) (s8 := s8) (post := fun _ => True) (wq_X6_digest k2 (fun _ => trivial)), rfl, ?_⟩
  rw [e2]
  have hp := bk_perm (L := cb_l q a0 a1 a2 a3 a4 a5 p8 s8 p9 AA BB s1 s2 s3 s4 s5 s6 z7) (L2 := [fo_w (a0 0) (a1 0) (a2 0) (a3 0) (a4 0) (a5 0) p8 s8, bd_w a2 q s2, tp_w a1 q s1, bd_w a3 q s3, mo_w a4 q s4, pg_w a5 q s5, pa_o p8 p9 s6, pa_r p9 q 10 AA s6.2, ps_w q 10 AA s6.2, pa_r s8 q 2 BB z7, ps_w q 2 BB z7]) [0, 2, 1, 3, 4, 5, 6, 7, 8, 9, 10] (show List.Perm _ (List.range 11) by decide) rfl rfl
  refine hp.trans ?_
  simp only [List.flatten_cons, List.flatten_nil, List.append_nil, List.append_assoc]
  exact List.Perm.refl _
theorem um_count {l : Launch} {D : va_G} {q : Nat → ClassId} {h : Nat} {w : va_W} {N : Int} {x1 : Int32} (hI : c_I N q h w) : un_i l D q 5 yX6_count cX6_count 2 (some .int) ({ frames := 3, cells := 0, slots := 0, locals := 90 } : Room) h [.int x1] 0 0 w (fun r w3 => ∃ M, c_I M q h w3 ∧ M = N) := by
  intro sz
  obtain ⟨a0, a1, a2, a3, a4, a5, p8, s8, p9, AA, BB, s1, s2, s3, s4, s5, s6, z7, e1, e2, k1, ⟨R, W, k2⟩, ⟨R3, W3, k3⟩, k4, k5, k6, k7⟩ := hI
  subst e1
  refine ⟨_, _, [bd_w a3 q s3, pg_w a5 q s5, pa_r p9 q 10 AA s6.2, ps_w q 10 AA s6.2, ps_w q 2 BB z7].flatten, _, _, _, c2_X6_count (a1 := a1) (a2 := a2) (a3 := a3) (a4 := a4) (a5 := a5) (p8 := p8) (s8 := s8) (p9 := p9) (z7 := z7) (AA := BB) (post := fun r ua ub => mo ua ∧ (pa ub ∧ ub.2 = s6.2)) (wq_X6_count k1 k2 k4 k6 (fun r ua ub b0 b1 b2 => ⟨b0, ⟨b1, b2⟩⟩)), rfl, ?_, fun r u hu => ?_⟩
  · rw [e2]
    have hp := bk_perm (L := cb_l q a0 a1 a2 a3 a4 a5 p8 s8 p9 AA BB s1 s2 s3 s4 s5 s6 z7) (L2 := [fo_w (a0 0) (a1 0) (a2 0) (a3 0) (a4 0) (a5 0) p8 s8, tp_w a1 q s1, bd_w a2 q s2, mo_w a4 q s4, pa_o p8 p9 s6, pa_r s8 q 2 BB z7, bd_w a3 q s3, pg_w a5 q s5, pa_r p9 q 10 AA s6.2, ps_w q 10 AA s6.2, ps_w q 2 BB z7]) [0, 1, 2, 4, 6, 9, 3, 5, 7, 8, 10] (show List.Perm _ (List.range 11) by decide) rfl rfl
    refine hp.trans ?_
    simp only [List.flatten_cons, List.flatten_nil, List.append_nil, List.append_assoc]
    exact List.Perm.refl _
  · obtain ⟨g0, g1⟩ := hu
    refine ⟨_, ⟨N, ⟨a0, a1, a2, a3, a4, a5, p8, s8, p9, AA, BB, s1, s2, s3, u.1, s5, u.2, z7, rfl, rfl, k1, ⟨R, W, k2⟩, ⟨R3, W3, k3⟩, g0, k5, g1.1, k7⟩, rfl⟩, ?_⟩
    have hp := bk_perm (L := cb_l q a0 a1 a2 a3 a4 a5 p8 s8 p9 AA BB s1 s2 s3 u.1 s5 u.2 z7) (L2 := [fo_w (a0 0) (a1 0) (a2 0) (a3 0) (a4 0) (a5 0) p8 s8, tp_w a1 q s1, bd_w a2 q s2, mo_w a4 q u.1, pa_o p8 p9 u.2, pa_r s8 q 2 BB z7, bd_w a3 q s3, pg_w a5 q s5, pa_r p9 q 10 AA u.2.2, ps_w q 10 AA u.2.2, ps_w q 2 BB z7]) [0, 1, 2, 4, 6, 9, 3, 5, 7, 8, 10] (show List.Perm _ (List.range 11) by decide) rfl rfl
    refine List.Perm.symm (hp.trans ?_)
    simp only [List.flatten_cons, List.flatten_nil, List.append_nil, List.append_assoc]
    rw [g1.2]
