/-! The other steps. -/
theorem st_end {m0 : Md} {R W D : Int} {G : (Int32 → Md → Prop) → Md → Int32 → Prop} {wl : Int32} {t w : Tp} {k a b q : Int32} (key : ∀ (v : Md) (P : Int32 → Md → Prop) (x : Int32), VV m0 R W D t ((va_up v.1 6 ((v.1 6) + wl)), v.2.1, v.2.2.1, v.2.2.2) → G P v x → (w.1 5 = 0 ∧ KB m0 R W k a b q ∧ ∃ v', VV m0 R W D w v' ∧ SM v v' ∧ (t.1 1).toInt ≤ (w.1 1).toInt ∧ (k = 6 → (t.1 1).toInt + 2 ≤ (w.1 1).toInt) ∧ (k = 7 ∨ k = 9 ∨ k = 10 → (t.1 1).toInt + 1 ≤ (w.1 1).toInt) ∧ wp_X7_isDone (fun r' u => (r' = 0 → P 1 u) ∧ (¬ r' = 0 → DO k a b q (fun w => P 1 w) u)) v' x) ∨ (¬ w.1 5 = 0 ∧ ∃ v', P 0 v' ∧ v'.1 7 = w.1 5 ∧ SM v v')) : (w.1 5 = 0 → BSR m0 R W D G wl t k a b q w) ∧ (¬ w.1 5 = 0 → FSR m0 R W D G wl t (w.1 5)) := by
  refine ⟨fun c => ?_, fun c => ⟨c, ?_⟩⟩
  · intro v P x hV h7
    rcases key v P x hV h7 with g | g
    · exact g.2
    · exact (g.1 c).elim
  · intro v P x hV h7
    rcases key v P x hV h7 with g | g
    · exact (c g.1).elim
    · exact g.2
/-- scroll -/
theorem st_scroll {K : Tp → Prop} {m0 : Md} {R W D : Int} {t : Tp} {wd : Int32} (hw : wd.toInt = W) (hb : 0 ≤ W ∧ W ≤ 10) (h6 : wp_X5_takeQuoted K t 0 wd) : ∃ w, K w ∧ ((w.1 5 = 0 → BSR m0 R W D wp_X7_goesScroll 6 t 8 0 (w.1 3) (w.1 4) w) ∧ (¬ w.1 5 = 0 → FSR m0 R W D wp_X7_goesScroll 6 t (w.1 5))) := by
  have e0 : (0 : Int32).toInt = 0 := rfl
  obtain ⟨w, h6, z2⟩ := fz1 (dt_X5_takeQuoted t 0 wd) h6
  refine ⟨w, h6, st_end ?_⟩
  intro v P x hV h7
  unfold wp_X7_goesScroll at h7
  have rn := rw_n hV.2.1
  have h7 := wide_e h7
  have ew1 : Int64.toInt32 (v.2.2.1 0 1) = wd := Int32.toInt_inj.mp (rn.2.1.trans hw.symm)
  have h7 : wp_X7_readsQuoted _ ((va_up v.1 6 ((v.1 6) + 6)), v.2.1, v.2.2.1, v.2.2.2) 0 (Int64.toInt32 (v.2.2.1 0 1)) := h7
  rw [ew1] at h7
  obtain ⟨w', r8, v2, c3, h7, f2, k1⟩ := sm_quoted hV.1 (by decide) (by omega) (by omega) z2 h7
  subst c3
  have sm : SM v v2 := SM_wl (FR_sm f2)
  rcases k1 with ⟨rfl, k1, k2, k3, k4, k5, k6, ⟨k7, k8⟩, k9⟩ | ⟨rfl, k1⟩
  · have vv : VV m0 R W D w' v2 := VV_sm hV (FR_sm f2) k1
    refine Or.inl ⟨k1.2.2.2.2, ⟨by decide, fun c => absurd c (by decide), fun _ => ⟨by rw [k2]; exact k6, by rw [k3]; omega, by rw [k2, k3, ← vv.2.2.1]; exact k7, by rw [k2, k3]; exact SG_vv vv.2.2.1 vv.2.2.2 k9⟩, fun c => absurd c (by decide), fun c => absurd c (by decide), fun c => absurd c (by decide)⟩, v2, vv, sm, ?_, fun c => absurd c (by decide), fun c => absurd c (by decide), id_mono (h7.1 (by decide)) (fun q => ⟨fun _ => q.1 rfl, fun c => (c rfl).elim⟩) (fun q => ⟨fun c => absurd c (by decide), fun c => ⟨fun c => absurd c (by decide), fun c => absurd c (by decide), fun _ => ?_, fun c => absurd c (by decide), fun c => absurd c (by decide), fun c => absurd c (by decide)⟩⟩)⟩
    · have a1 := congrArg Int32.toInt hV.1.2.1
      have a2 := congrArg Int32.toInt k1.2.1
      omega
    · rw [k2, k3]
      exact q.2 c
  · exact Or.inr ⟨k1.2, v2, h7.2 rfl, k1.1.symm, sm⟩
/-- home -/
theorem st_home {K : Int32 → Tp → Prop} {m0 : Md} {R W D : Int} {t : Tp} {rows b q : Int32} (hr : rows.toInt = R) (hb : 0 ≤ R ∧ R ≤ 6) (h6 : wp_X5_takeNumber K t 0 (rows - 1)) : ∃ r w, K r w ∧ ∀ q, ((w.1 5 = 0 → BSR m0 R W D wp_X7_goesHome 4 t 9 r 0 q w) ∧ (¬ w.1 5 = 0 → FSR m0 R W D wp_X7_goesHome 4 t (w.1 5))) := by
  have e0 : (0 : Int32).toInt = 0 := rfl
  have e1 : (1 : Int32).toInt = 1 := rfl
  have sr := nw (tq_subr e1 rows) (by omega)
  obtain ⟨r, u, h6, z1⟩ := fz2 (F := fun P => wp_X5_takeNumber P t 0 (rows - 1)) (dt_X5_takeNumber t 0 (rows - 1)) h6
  refine ⟨r, u, h6, fun q => st_end ?_⟩
  intro v P x hV h7
  unfold wp_X7_goesHome at h7
  have rn := rw_n hV.2.1
  have h7 := rows_e h7
  have ew : Int64.toInt32 (v.2.2.1 0 0) = rows := Int32.toInt_inj.mp (rn.1.trans hr.symm)
  have h7 : wp_X7_readsNumber _ ((va_up v.1 6 ((v.1 6) + 4)), v.2.1, v.2.2.1, v.2.2.2) 0 (Int64.toInt32 (v.2.2.1 0 0) - 1) := h7
  rw [ew] at h7
  obtain ⟨r', u', r7, v1, ⟨c1, c2⟩, h7, f1, g1⟩ := sm_number hV.1 (by decide) (by omega) z1 h7
  subst c1 c2
  have sm : SM v v1 := SM_wl (FR_sm f1)
  rcases g1 with ⟨rfl, g1, g2, g3, g4, _, _, _, g5⟩ | ⟨rfl, g1⟩
  · have vv : VV m0 R W D u' v1 := VV_sm hV (FR_sm f1) g1
    refine Or.inl ⟨g1.2.2.2.2, ⟨by decide, fun c => absurd c (by decide), fun c => absurd c (by decide), fun _ => ⟨by omega, by omega⟩, fun c => absurd c (by decide), fun c => absurd c (by decide)⟩, v1, vv, sm, ?_, fun c => absurd c (by decide), fun _ => ?_, id_mono (h7.1 (by decide)) (fun q => ⟨fun _ => q.2 rfl, fun c => (c rfl).elim⟩) (fun q => ⟨fun c => absurd c (by decide), fun c => ⟨fun c => absurd c (by decide), fun c => absurd c (by decide), fun c => absurd c (by decide), fun _ => ⟨g2.symm, ?_⟩, fun c => absurd c (by decide), fun c => absurd c (by decide)⟩⟩)⟩
    · have a1 := congrArg Int32.toInt hV.1.2.1
      have a2 := congrArg Int32.toInt g1.2.1
      omega
    · have a1 := congrArg Int32.toInt hV.1.2.1
      have a2 := congrArg Int32.toInt g1.2.1
      omega
    · obtain ⟨n, q⟩ := q.1 c
      exact ⟨_, n, x, q⟩
  · exact Or.inr ⟨g1.2, v1, h7.2 rfl, g1.1.symm, sm⟩
/-- wait -/
theorem st_wait {K : Int32 → Tp → Prop} {m0 : Md} {R W D : Int} {t : Tp} (h6 : wp_X5_takeNumber K t 1 99) : ∃ r w, K r w ∧ ∀ q, ((w.1 5 = 0 → BSR m0 R W D wp_X7_goesWait 4 t 10 r 0 q w) ∧ (¬ w.1 5 = 0 → FSR m0 R W D wp_X7_goesWait 4 t (w.1 5))) := by
  have e99 : (99 : Int32).toInt = 99 := rfl
  have e1 : (1 : Int32).toInt = 1 := rfl
  obtain ⟨r, u, h6, z1⟩ := fz2 (F := fun P => wp_X5_takeNumber P t 1 99) (dt_X5_takeNumber t 1 99) h6
  refine ⟨r, u, h6, fun q => st_end ?_⟩
  intro v P x hV h7
  unfold wp_X7_goesWait at h7
  obtain ⟨r', u', r7, v1, ⟨c1, c2⟩, h7, f1, g1⟩ := sm_number hV.1 (by decide) (by decide) z1 h7
  subst c1 c2
  have sm : SM v v1 := SM_wl (FR_sm f1)
  rcases g1 with ⟨rfl, g1, g2, g3, g4, _, _, _, g5⟩ | ⟨rfl, g1⟩
  · have vv : VV m0 R W D u' v1 := VV_sm hV (FR_sm f1) g1
    refine Or.inl ⟨g1.2.2.2.2, ⟨by decide, fun c => absurd c (by decide), fun c => absurd c (by decide), fun c => absurd c (by decide), fun _ => ⟨by omega, by omega⟩, fun c => absurd c (by decide)⟩, v1, vv, sm, ?_, fun c => absurd c (by decide), fun _ => ?_, id_mono (h7.1 (by decide)) (fun q => ⟨fun _ => q.2 rfl, fun c => (c rfl).elim⟩) (fun q => ⟨fun c => absurd c (by decide), fun c => ⟨fun c => absurd c (by decide), fun c => absurd c (by decide), fun c => absurd c (by decide), fun c => absurd c (by decide), fun _ => ⟨g2.symm, ?_⟩, fun c => absurd c (by decide)⟩⟩)⟩
    · have a1 := congrArg Int32.toInt hV.1.2.1
      have a2 := congrArg Int32.toInt g1.2.1
      omega
    · have a1 := congrArg Int32.toInt hV.1.2.1
      have a2 := congrArg Int32.toInt g1.2.1
      omega
    · obtain ⟨n, q⟩ := q.1 c
      exact ⟨_, n, x, q⟩
  · exact Or.inr ⟨g1.2, v1, h7.2 rfl, g1.1.symm, sm⟩
/-- settle -/
theorem st_settle {m0 : Md} {R W D : Int} {t : Tp} {b q : Int32} (h5 : t.1 5 = 0) : BSR m0 R W D wp_X7_goesSettle 6 t 11 0 b q t := by
  intro v P x hV h7
  unfold wp_X7_goesSettle at h7
  refine ⟨⟨by decide, fun c => absurd c (by decide), fun c => absurd c (by decide), fun c => absurd c (by decide), fun c => absurd c (by decide), fun c => absurd c (by decide)⟩, _, hV, SM_up v (by decide), Int.le_refl _, fun c => absurd c (by decide), fun c => absurd c (by decide), id_mono h7 (fun q => ⟨fun _ => q.1 rfl, fun c => (c rfl).elim⟩) (fun q => ⟨fun c => absurd c (by decide), fun c => ⟨fun c => absurd c (by decide), fun c => absurd c (by decide), fun c => absurd c (by decide), fun c => absurd c (by decide), fun c => absurd c (by decide), fun _ => q.2 c⟩⟩)⟩
/-- lose -/
theorem st_lose {K : Int32 → Int32 → Tp → Prop} {m0 : Md} {R W D : Int} {t : Tp} {ce : Int32} (hr : ce.toInt = R * W) (hb : 0 ≤ R * W ∧ R * W ≤ 40) (h6 : wp_X5_takeNumber (fun r u => wp_X5_takeNumber (fun r2 w => K r r2 w) u 0 9) t 0 (ce - 1)) : ∃ r r2 w, K r r2 w ∧ ∀ q, ((w.1 5 = 0 → BSR m0 R W D wp_X7_goesLose 4 t 7 r r2 q w) ∧ (¬ w.1 5 = 0 → FSR m0 R W D wp_X7_goesLose 4 t (w.1 5))) := by
  have e0 : (0 : Int32).toInt = 0 := rfl
  have e1 : (1 : Int32).toInt = 1 := rfl
  have e9 : (9 : Int32).toInt = 9 := rfl
  have sr := nw (tq_subr e1 ce) (by omega)
  obtain ⟨r, u, h6, z1⟩ := fz2 (F := fun P => wp_X5_takeNumber P t 0 (ce - 1)) (dt_X5_takeNumber t 0 (ce - 1)) h6
  obtain ⟨r2, w, h6, z2⟩ := fz2 (F := fun P => wp_X5_takeNumber P u 0 9) (dt_X5_takeNumber u 0 9) h6
  refine ⟨r, r2, w, h6, fun q => st_end ?_⟩
  intro v P x hV h7
  unfold wp_X7_goesLose wp_X7_readsLose at h7
  have rn := rw_n hV.2.1
  have h7 := cells7_e h7
  have ew : Int64.toInt32 (v.2.2.1 0 0) * Int64.toInt32 (v.2.2.1 0 1) = ce := Int32.toInt_inj.mp (rn.2.2.2.1.trans hr.symm)
  have h7 : wp_X7_readsNumber _ ((va_up v.1 6 ((v.1 6) + 4)), v.2.1, v.2.2.1, v.2.2.2) 0 (Int64.toInt32 (v.2.2.1 0 0) * Int64.toInt32 (v.2.2.1 0 1) - 1) := h7
  rw [ew] at h7
  obtain ⟨r', u', r7, v1, ⟨c1, c2⟩, h7, f1, g1⟩ := sm_number hV.1 (by decide) (by omega) z1 h7
  subst c1 c2
  rcases g1 with ⟨rfl, g1, g2, g3, g4, _, _, _, g5⟩ | ⟨rfl, g1⟩
  · have h7 := h7.1 (by decide)
    obtain ⟨r3, w', r8, v2, ⟨c3, c4⟩, h7, f2, k1⟩ := sm_number (show RT u' ((va_up v1.1 12 (v1.1 8)), v1.2.1, v1.2.2.1, v1.2.2.2) from g1) (by decide) (by decide) z2 h7
    subst c3 c4
    have sm1 : SM ((va_up v.1 6 ((v.1 6) + 4)), v.2.1, v.2.2.1, v.2.2.2) v2 := SM_tr (FR_sm f1) (SM_tr (SM_up v1 (by decide)) (FR_sm f2))
    have sm : SM v v2 := SM_wl sm1
    have e12 : v2.1 12 = r' := (f2.2.2.1 12 (by decide)).trans g2.symm
    rcases k1 with ⟨rfl, k1, k2, k3, k4, _, _, _, k5⟩ | ⟨rfl, k1⟩
    · have vv : VV m0 R W D w' v2 := VV_sm hV sm1 k1
      have pp : (t.1 1).toInt + 1 ≤ (w'.1 1).toInt := by
        have a1 := congrArg Int32.toInt hV.1.2.1
        have a2 := congrArg Int32.toInt k1.2.1
        have a3 := congrArg Int32.toInt g1.2.1
        have k5 : (v1.1 6).toInt < (v2.1 6).toInt := k5
        omega
      refine Or.inl ⟨k1.2.2.2.2, ⟨by decide, fun c => absurd c (by decide), fun c => absurd c (by decide), fun c => absurd c (by decide), fun c => absurd c (by decide), fun _ => ⟨⟨by omega, by omega⟩, by omega, by omega⟩⟩, v2, vv, sm, by omega, fun c => absurd c (by decide), fun _ => pp, id_mono (h7.2.1 (by decide)) (fun q => ⟨fun _ => q.1 rfl, fun c => (c rfl).elim⟩) (fun q => ⟨fun c => absurd c (by decide), fun c => ⟨fun c => absurd c (by decide), fun _ => ?_, fun c => absurd c (by decide), fun c => absurd c (by decide), fun c => absurd c (by decide), fun c => absurd c (by decide)⟩⟩)⟩
      have q := q.2 c
      have q : wp_X7_sets (fun u_8 => P 1 u_8) ((va_up v2.1 13 ((v2.1 13) + 1)), v2.2.1, v2.2.2.1, v2.2.2.2) (v2.1 12) 4 (Int32.toInt64 (v2.1 8)) := q
      rw [e12, ← k2] at q
      exact q
    · exact Or.inr ⟨k1.2, v2, h7.2.2 rfl, k1.1.symm, sm⟩
  · obtain ⟨o, ⟨c3, c5⟩, c4⟩ := fq_X5_takeNumber u' 0 9 g1.2 rfl (fun o => o.1 = r2 ∧ o.2 = w) z2
    have c4 : o.2.1 5 = u'.1 5 := c4
    rw [c5] at c4
    exact Or.inr ⟨by rw [c4]; exact g1.2, v1, h7.2 rfl |>.2 rfl, by rw [c4]; exact g1.1.symm, SM_wl (FR_sm f1)⟩
