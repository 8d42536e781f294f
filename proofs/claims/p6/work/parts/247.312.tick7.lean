/-! A tick of the reference: those that turn make a step each. -/
def SW (f g : Nat → Int64) (c : Nat) : Prop := g (176 + 8 * c + 0) = f (176 + 8 * c + 0) ∧ g (176 + 8 * c + 3) = f (176 + 8 * c + 3) ∧ g (176 + 8 * c + 7) = f (176 + 8 * c + 7) ∧ Int64.toInt32 (g (176 + 8 * c + 1)) = (sw f c).1 ∧ Int64.toInt32 (g (176 + 8 * c + 2)) = (sw f c).2.1 ∧ Int64.toInt32 (g (176 + 8 * c + 4)) = (sw f c).2.2.1 ∧ Int64.toInt32 (g (176 + 8 * c + 5)) = Int64.toInt32 (f (176 + 8 * c + 5)) + 1 ∧ Int64.toInt32 (g (176 + 8 * c + 6)) = Int64.toInt32 (f (176 + 8 * c + 6)) + (sw f c).2.2.2
def SV (f g : Nat → Int64) (T : Nat → Bool) (n z : Nat) : Prop := (∀ i, (i < 176 ∨ 176 + 8 * n ≤ i) → ¬ (i = 6 ∨ i = 7) → g i = f i) ∧ (∀ c, c < n → (T c = true ∧ c < z → SW f g c) ∧ (¬ (T c = true ∧ c < z) → ∀ j, j < 8 → g (176 + 8 * c + j) = f (176 + 8 * c + j))) ∧ (Int64.toInt32 (g 7) = Int64.toInt32 (f 7) + fs (fun c => (sw f c).2.2.2) T z ∧ Int64.toInt32 (g 6) = Int64.toInt32 (f 6) + fs (fun _ => 1) T z) ∧ ((∀ c, c < z → T c = false) → g = f)
theorem e7_ticks_L {s : Md} {f : Nat → Int64} {N R W D : Int} {post : Int32 → Md → Prop} {e : Md → Int32 → Prop} (hs : s.2.2.1 0 = f) (hf : rw_ok R W D f) (hD : 0 < D) : ∀ (n : Nat) (t : Md) (z : Int32), mb N R W D t → FN s t → 0 ≤ z.toInt → z.toInt ≤ R * W → SV f (t.2.2.1 0) (bs_at s.2.1) (R * W).toNat z.toInt.toNat → wp_X7_ticks_L6 post e n t z → ∃ t' z', e t' z' ∧ mb N R W D t' ∧ FN s t' ∧ SV f (t'.2.2.1 0) (bs_at s.2.1) (R * W).toNat (R * W).toNat := by
  have hR := hf.2.2.2.2.2.1
  have e1 : (1 : Int32).toInt = 1 := rfl
  intro n
  induction n with
  | zero =>
    intro t z _ _ _ _ _ h
    exact (show False from h).elim
  | succ n ih =>
    intro t z hM hN h0 h1 hV h
    unfold wp_X7_ticks_L6 at h
    have h := cells7_e h
    have rn := rw_n hM.2.2.2.2.1
    by_cases c : Int64.toInt32 (t.2.2.1 0 0) * Int64.toInt32 (t.2.2.1 0 1) ≤ z
    · have := q_le c
      have ez : z.toInt = R * W := by omega
      rw [ez] at hV
      exact ⟨t, z, h.1 c, hM, hN, hV⟩
    · have c1 := q_nle c
      have a := nw (tq_addr e1 z) (by omega)
      have az : (z + 1).toInt.toNat = z.toInt.toNat + 1 := by omega
      obtain ⟨v1, v2, v3, v4⟩ := id hV
      rcases e7_isIn (by omega) (h.2 c) with ⟨h, b⟩ | ⟨h, b⟩
      · rw [hN.2.1] at b
        have h := dt_conj (dt_X7_steps t z) (h.2 (by decide)) (wq_X7_steps (post := fun u => mb N R W D u) hM ⟨h0, by omega⟩ hD (fun u a _ _ _ => a))
        obtain ⟨F, eF, u, ⟨h, mu⟩, fu, sr⟩ := e7_steps hM.2.2.2.2.1 hD h0 (by omega) h
        have old := (v2 z.toInt.toNat (by omega)).2 (fun g => by omega)
        have ef := flF_c (c := z.toInt.toNat) (g := t.2.2.1 0) hf hD (by omega) (old 0 (by decide)) (fun i a b => v1 i (Or.inl b) (by omega))
        have eF : F = Fc f z.toInt.toNat := Int32.toInt_inj.mp ((eF.trans ef).trans (Fc_e hf hD (by omega)).symm)
        subst eF
        obtain ⟨s1, s2, s3, s4, s5, s6, s7, s8, s9, s10, s11⟩ := sr
        have es : ST (Fc f z.toInt.toNat) (Int64.toInt32 (t.2.2.1 0 (176 + 8 * z.toInt.toNat + 1))) (Int64.toInt32 (t.2.2.1 0 (176 + 8 * z.toInt.toNat + 2))) (Int64.toInt32 (t.2.2.1 0 (176 + 8 * z.toInt.toNat + 4))) = sw f z.toInt.toNat := by
          rw [old 1 (by decide), old 2 (by decide), old 4 (by decide)]
          rfl
        rw [es] at s5 s6 s7 s9 s11
        rw [old 0 (by decide)] at s2
        rw [old 3 (by decide)] at s3
        rw [old 7 (by decide)] at s4
        rw [old 5 (by decide)] at s8
        rw [old 6 (by decide)] at s9
        refine ih u (z + 1) mu (FN_tr hN fu) (by omega) (by omega) ⟨fun i a b => (s1 i (by omega) b).trans (v1 i a b), fun k hk => ?_, ?_, fun g => (by
          rw [az] at g
          rw [g _ (Nat.lt_succ_self _)] at b
          cases b)⟩ h
        · rw [az]
          by_cases q : k = z.toInt.toNat
          · subst q
            exact ⟨fun _ => ⟨s2, s3, s4, s5, s6, s7, s8, s9⟩, fun g => (g ⟨b, by omega⟩).elim⟩
          · have hk2 : ∀ j, j < 8 → u.2.2.1 0 (176 + 8 * k + j) = t.2.2.1 0 (176 + 8 * k + j) := fun j hj => s1 _ (by omega) (by omega)
            refine ⟨fun g => ?_, fun g j hj => ?_⟩
            · have w := (v2 k hk).1 ⟨g.1, by omega⟩
              unfold SW at w ⊢
              rw [hk2 0 (by decide), hk2 1 (by decide), hk2 2 (by decide), hk2 3 (by decide), hk2 4 (by decide), hk2 5 (by decide), hk2 6 (by decide), hk2 7 (by decide)]
              exact w
            · rw [hk2 j hj]
              exact (v2 k hk).2 (fun g2 => g ⟨g2.1, by omega⟩) j hj
        · rw [az]
          refine ⟨?_, ?_⟩
          · show _ = Int64.toInt32 (f 7) + (fs _ _ z.toInt.toNat + (if bs_at s.2.1 z.toInt.toNat then _ else 0))
            rw [if_pos b, s11, Int64.toInt32_add, t32_64, v3.1, Int32.add_assoc]
          · show _ = Int64.toInt32 (f 6) + (fs _ _ z.toInt.toNat + (if bs_at s.2.1 z.toInt.toNat then _ else 0))
            rw [if_pos b, s10, Int64.toInt32_add, v3.2, Int32.add_assoc]
            rfl
      · rw [hN.2.1] at b
        refine ih t (z + 1) hM hN (by omega) (by omega) ⟨v1, fun k hk => ?_, ?_, fun g => v4 (fun c hc => g c (by omega))⟩ (h.1 rfl)
        · rw [az]
          by_cases q : k = z.toInt.toNat
          · subst q
            exact ⟨fun g => (by
              rw [b] at g
              cases g.1), fun _ => (v2 _ hk).2 (fun g => by omega)⟩
          · exact ⟨fun g => (v2 k hk).1 ⟨g.1, by omega⟩, fun g => (v2 k hk).2 (fun g2 => g ⟨g2.1, by omega⟩)⟩
        · rw [az]
          refine ⟨?_, ?_⟩
          · show _ = Int64.toInt32 (f 7) + (fs _ _ z.toInt.toNat + (if bs_at s.2.1 z.toInt.toNat then _ else 0))
            rw [b, if_neg (by decide), Int32.add_zero]
            exact v3.1
          · show _ = Int64.toInt32 (f 6) + (fs _ _ z.toInt.toNat + (if bs_at s.2.1 z.toInt.toNat then _ else 0))
            rw [b, if_neg (by decide), Int32.add_zero]
            exact v3.2
/-- behind a tick: the same choice on both sides makes related boards -/
theorem RB_tick {b b' : Bd} {f g : Nat → Int64} {T : Nat → Bool} {R W D : Int} {n : Nat} (hf : rw_ok R W D f) (hB : RB b f) (hC : CV f b b' T) (hn : n = (R * W).toNat) (hV : ∀ i, i < 176 → ¬ (4 ≤ i ∧ i < 8) → g i = f i) (hW : ∀ c, c < n → (T c = true → SW f g c) ∧ (T c = false → ∀ j, j < 8 → g (176 + 8 * c + j) = f (176 + 8 * c + j))) : RB b' g := by
  subst hn
  obtain ⟨c1, c2, c3, c4⟩ := hC
  obtain ⟨a, b1, d⟩ := id hB
  have g0 : g 0 = f 0 := hV 0 (by omega) (by omega)
  have g1 : g 1 = f 1 := hV 1 (by omega) (by omega)
  have g2 : g 2 = f 2 := hV 2 (by omega) (by omega)
  have g3 : g 3 = f 3 := hV 3 (by omega) (by omega)
  have r0 : (f 0).toInt = R := hf.1
  have r1 : (f 1).toInt = W := hf.2.1
  refine ⟨by rw [c1, g0, g1, g2, g3]; exact a, ⟨by rw [g3, g0, g1]; exact b1.1, fun e he => ?_⟩, fun i hi => ?_⟩
  · rw [g3] at he
    have b0 := b1.1
    obtain ⟨b4, b5, b6, b7⟩ := b1.2 e he
    have b40 := b4.1
    have ed : d_f g e = d_f f e := by
      unfold d_f
      rw [hV _ (by omega) (by omega)]
    rw [c3 0 (by omega), c3 1 (by omega), c3 2 (by omega), ed, hV (8 + 42 * e) (by omega) (by omega), hV (8 + 42 * e + 1) (by omega) (by omega)]
    refine ⟨DG_k b4 (fun i h1 h2 => hV i (by omega) (by omega)), b5, b6, fun k hk => ?_⟩
    rw [hV _ (by omega) (by omega)]
    exact b7 k hk
  · rw [g0, g1] at hi
    obtain ⟨d1, d2⟩ := d i hi
    rw [r0, r1] at hi
    cases q : T i with
    | true =>
      obtain ⟨s1, s2, s3, s4, s5⟩ := (c4 i).1 q
      obtain ⟨w1, w2, w3, w4, w5, w6, w7, w8⟩ := (hW i (by omega)).1 q
      refine ⟨fun j hj => ?_, ?_⟩
      · rcases (show j = 0 ∨ j = 1 ∨ j = 2 ∨ j = 3 ∨ j = 4 ∨ j = 5 ∨ j = 6 by omega) with rfl | rfl | rfl | rfl | rfl | rfl | rfl
        · rw [c3 (3 + 0) (by omega), w1]
          exact d1 0 hj
        · exact s1.trans w4.symm
        · exact s2.trans w5.symm
        · rw [c3 (3 + 3) (by omega), w2]
          exact d1 3 hj
        · exact s3.trans w6.symm
        · rw [w7]
          exact s4.trans (by rw [← d1 5 hj])
        · rw [w8]
          exact s5.trans (by rw [← d1 6 hj])
      · rw [c2, w3]
        exact d2
    | false =>
      have s1 := (c4 i).2 q
      have w1 := (hW i (by omega)).2 q
      refine ⟨fun j hj => ?_, ?_⟩
      · rw [s1, w1 j (by omega)]
        exact d1 j hj
      · rw [c2, w1 7 (by decide)]
        exact d2
