/-! tell: the relation behind it. -/
theorem fr_cj {O : Type} {F : (O → Prop) → Prop} {I P : O → Prop} (d : dt F F) (x : xf F I) (h : F P) : F (fun o => P o ∧ I o) := by
  obtain ⟨o, p, mk, _⟩ := d P h
  obtain ⟨o', e, i⟩ := x (fun a => a = o) (mk _ rfl)
  rw [e] at i
  exact mk _ ⟨p, i⟩
theorem fr_cj2 {A B : Type} {F : (A → B → Prop) → Prop} {I : A × B → Prop} {P : A → B → Prop} (d : dt (fun P : A × B → Prop => F (fun a b => P (a, b))) (fun P : A × B → Prop => F (fun a b => P (a, b)))) (x : xf (fun P : A × B → Prop => F (fun a b => P (a, b))) I) (h : F P) : F (fun a b => P a b ∧ I (a, b)) := fr_cj (P := fun o => P o.1 o.2) d x h
def TBK (s u : Md) : Prop := u.1 = s.1 ∧ u.2.1 = s.2.1 ∧ u.2.2.2 = s.2.2.2 ∧ (∀ k, ¬ k = 0 → u.2.2.1 k = s.2.2.1 k) ∧ (∀ i : Nat, i < 6896 → u.2.2.1 0 i = s.2.2.1 3 i)
theorem e7_takesBack {P : Md → Prop} {s : Md} (h : wp_X7_takesBack P s) : ∃ u, P u ∧ TBK s u := by
  refine dt_both (dt_X7_takesBack s) h ?_
  unfold wp_X7_takesBack
  have e0 : (0 : Int32).toInt = 0 := rfl
  obtain ⟨nf, hf⟩ := fu_e 7000
  refine ⟨nf, wq_X7_takesBack_L2 (s := s) (fun t z b1 b2 b3 b4 b5 b6 => ⟨b1, b2, b3, b4, fun i hi => ?_⟩) nf s 0 rfl rfl rfl (fun _ _ => rfl) (fun i hi => ?_) (fun _ _ => rfl) (by omega) (by omega)⟩
  · omega
  · have q := b5 i hi
    rw [Nat.zero_add] at q
    exact q
def ASD (s u : Md) : Prop := u.1 = s.1 ∧ u.2.1 = s.2.1 ∧ u.2.2.2 = s.2.2.2 ∧ (∀ k, ¬ k = 3 → u.2.2.1 k = s.2.2.1 k) ∧ (∀ i : Nat, i < 6896 → u.2.2.1 3 i = s.2.2.1 0 i)
theorem e7_putsAside {P : Md → Prop} {s : Md} (h : wp_X7_putsAside P s) : ∃ u, P u ∧ ASD s u := by
  refine dt_both (dt_X7_putsAside s) h ?_
  unfold wp_X7_putsAside
  have e0 : (0 : Int32).toInt = 0 := rfl
  obtain ⟨nf, hf⟩ := fu_e 7000
  refine ⟨nf, wq_X7_putsAside_L2 (s := s) (fun t z b1 b2 b3 b4 b5 b6 => ⟨b1, b2, b3, b4, fun i hi => ?_⟩) nf s 0 rfl rfl rfl (fun _ _ => rfl) (fun i hi => ?_) (fun _ _ => rfl) (by omega) (by omega)⟩
  · omega
  · have q := b5 i hi
    rw [Nat.zero_add] at q
    exact q
theorem ASD_mb {N R W D : Int} {s u : Md} (hM : mb N R W D s) (hs : R ≤ 0 ∨ 0 < D) (h : ASD s u) : mb N R W D u := by
  obtain ⟨b1, b2, b3, b4, b5⟩ := h
  obtain ⟨a0, a1, a2, a3, a4, a5, a6, a7⟩ := id hM
  refine ⟨by rw [b1]; exact a0, by rw [b1]; exact a1, a2, a3, by rw [b4 0 (by decide)]; exact a4, fun kk hk => ?_, fun kk hk hn => ?_, rk_congr (rk_now hM hs) b5⟩
  · rw [b1] at hk
    rw [b4 1 (by decide)]
    exact a5 kk hk
  · rw [b4 2 (by decide)]
    rw [b3] at hn
    exact a6 kk hk hn
set_option maxHeartbeats 4000000 in
theorem sm_tellF {P6 : Int32 → Tp → Bd → Bd → Pa → Prop} {P7 : Int32 → Md → Prop} {s1 : Tp} {s2 s3 : Bd} {s6 : Pa} {z7 : Nat → Option Bd} {m : Md} {N R W D : Int} (hx : RX s1 m) (hB : RB s2 (m.2.2.1 0)) (hP : RP s6 m) (hS : RSh z7 m) (hM : mb N R W D m) (hs : R ≤ 0 ∨ 0 < D) (hq : ∀ r v, P7 r v → ∃ N R W D, mb N R W D v) (h6 : wp_X6_tell P6 s1 s2 s3 s6) (h7 : wp_X7_tell P7 m) : ∃ r t' b2 b3 pa v, P6 r t' b2 b3 pa ∧ P7 r v ∧ RB b2 (v.2.2.1 0) ∧ RP pa v ∧ RSh z7 v := by
  unfold wp_X6_tell wp_X1_readInto at h6
  unfold wp_X7_tell at h7
  obtain ⟨b, h6, hZ⟩ := e0_clear h6
  unfold wp_X5_startReading at h6
  obtain ⟨w, h7, hw⟩ := e7_putsAside h7
  have mw := ASD_mb hM hs hw
  obtain ⟨w1, w2, w3, w4, w5⟩ := hw
  obtain ⟨n, h7⟩ := h7
  have z0 : (0 : Int32).toInt = 0 := rfl
  obtain ⟨v, z', h7, f1, _, f3⟩ := e7_zero_L n w 0 (by decide) (by decide) h7
  have hv0 : ∀ i : Nat, i < 6896 → v.2.2.1 0 i = 0 := fun i hi => f3 i (by rw [z0]; omega) hi
  have mv : mb N 0 0 0 v := mb_row mw (by rw [f1.1]) (by rw [f1.1]) f1.2.2.1 (by rw [f1.2.2.2]) (rw_zero hv0)
  have v1 : v.1 = m.1 := f1.1.trans w1
  have vt : v.2.2.2 = m.2.2.2 := f1.2.2.2.trans w3
  have rt : RT ((va_up (va_up (va_up (va_up (va_up s1.1 1 0) 2 0) 3 0) 4 0) 5 0), s1.2) ((va_up v.1 6 0), v.2.1, v.2.2.1, v.2.2.2) := by
    refine ⟨?_, rfl, (show (0 : Int) ≤ (0 : Int32).toInt by decide), ?_, rfl⟩
    · show s1.1 0 = v.1 5 ∧ s1.2 = (fun k => v.2.2.2 2 k &&& 255) ∧ 0 ≤ (v.1 5).toInt ∧ (v.1 5).toInt ≤ 400 ∧ (∀ k, -128 ≤ (v.2.2.2 2 k).toInt ∧ (v.2.2.2 2 k).toInt ≤ 127)
      rw [v1, vt]
      exact hx
    · show (0 : Int32).toInt ≤ (v.1 5).toInt
      rw [v1, z0]
      exact hx.2.2.1
  have v21 : v.2.2.1 1 = m.2.2.1 1 := (f1.2.2.1 1 (by decide)).trans (w4 1 (by decide))
  have v22 : v.2.2.1 2 = m.2.2.1 2 := (f1.2.2.1 2 (by decide)).trans (w4 2 (by decide))
  have v23 : ∀ i, i < 6896 → v.2.2.1 3 i = m.2.2.1 0 i := fun i hi => by
    rw [f1.2.2.1 3 (by decide)]
    exact w5 i hi
  have h7 := fr_cj2 (F := fun P => wp_X7_readsBoard P v) (dt_X7_readsBoard v) (fp_X7_readsBoard v) h7
  have h7 := fr_cj2 (F := fun P => wp_X7_readsBoard P v) (dt_X7_readsBoard v) (fd_X7_readsBoard v) h7
  obtain ⟨b', t', r, y, g1, ⟨⟨g2, g8⟩, g9⟩, g3⟩ := sm_board (P6 := fun u_2a u_2b => wp_X5_isSound (fun r_3 => ((¬ r_3 = 0 → wp_X0_copyAllButLog (fun u_7 => wp_X0_emptyLog (fun b_10 => P6 (b_10.1 3) ((va_up u_2b.1 0 0), u_2b.2) b_10 u_2a ((va_up s6.1 0 0), s6.2)) u_7) s2 u_2a) ∧ (r_3 = 0 → P6 ((-2) - (u_2b.1 5)) ((va_up u_2b.1 0 0), u_2b.2) s2 u_2a s6))) ((va_up u_2b.1 0 0), u_2b.2)) hZ mv hv0 rt h6 h7
  have g8 : (y.1 0, y.2.2.1 1, y.2.2.1 2, y.2.2.2 0) = (v.1 0, v.2.2.1 1, v.2.2.1 2, v.2.2.2 0) := g8
  have g9 : y.2.2.1 3 = v.2.2.1 3 := g9
  have y0 : y.1 0 = m.1 0 := (congrArg Prod.fst g8).trans (by rw [v1])
  have y1 : y.2.2.1 1 = m.2.2.1 1 := (congrArg (fun a => a.2.1) g8).trans v21
  have y2 : y.2.2.1 2 = m.2.2.1 2 := (congrArg (fun a => a.2.2.1) g8).trans v22
  have y3 : y.2.2.2 0 = m.2.2.2 0 := (congrArg (fun a => a.2.2.2) g8).trans (by rw [vt])
  rcases g3 with ⟨rfl, g4, g5, g6⟩ | ⟨rfl, g4⟩
  · have k6 := ((e5_isSound g1).1 g4).1 (by decide)
    obtain ⟨bb, k6, aS, _⟩ := e0_copyBut k6
    obtain ⟨b2, k6, e1, e2, e3⟩ := e0_emptyLog k6
    have k7 := drums_e (g2.1 (by decide))
    obtain ⟨N4, R4, W4, D4, hm4⟩ := hq _ _ k7
    have rR : rw_ok R4 W4 D4 (y.2.2.1 0) := hm4.2.2.2.2.1
    have er : b2.1 3 = Int64.toInt32 (y.2.2.1 0 3) := by
      rw [e1, aS.1.2.2.2.1]
      exact g5.1.2.2.2
    rw [er] at k6
    have a2 : AG b2 b' := by
      obtain ⟨a1, a2, a3, a4⟩ := aS
      refine ⟨by rw [e1]; exact a1, fun d hd => by rw [e2]; exact a2 d hd, fun k hk => by rw [e2]; exact a3 k hk, fun c hc => ?_⟩
      rw [e2, e3]
      exact a4 c hc
    refine ⟨_, _, _, _, _, _, k6, k7, RB_ag rR a2 g5, ⟨rfl, fun j hj => ?_⟩, RSh_k hS y3 y2⟩
    have hj2 : (j : Int) < (0 : Int32).toInt := hj
    omega
  · have k6 := ((e5_isSound g1).2 g4.2).2 rfl
    obtain ⟨v2, k7, t1, t2, t3, t4, t5⟩ := e7_takesBack (g2.2 rfl)
    have ee : (-2 : Int32) - (v2.1 7) = (-2) - (t'.1 5) := by
      rw [t1]
      show (-2 : Int32) - (y.1 7) = _
      rw [g4.1]
    rw [ee] at k7
    refine ⟨_, _, _, _, _, v2, k6, k7, RB_cg hM.2.2.2.2.1 (fun i hi => ?_) hB, RP_k hP (by rw [t1]; exact y0) ((t4 1 (by decide)).trans y1), RSh_k hS (by rw [t3]; exact y3) ((t4 2 (by decide)).trans y2)⟩
    rw [t5 i (by omega)]
    show y.2.2.1 3 i = _
    rw [g9, v23 i (by omega)]
