theorem and255 (a : Int32) : 0 ≤ (a &&& 255).toInt ∧ (a &&& 255).toInt ≤ 255 := by
  have e : (a &&& 255).toBitVec.toNat = a.toBitVec.toNat &&& 255 := by
    rw [Int32.toBitVec_and, BitVec.toNat_and]
    rfl
  have l : a.toBitVec.toNat &&& 255 ≤ 255 := Nat.and_le_right
  have t : (a &&& 255).toInt = ((a &&& 255).toBitVec.toNat : Int) := by
    show (a &&& 255).toBitVec.toInt = _
    rw [BitVec.toInt_eq_toNat_of_lt (by rw [e]; omega)]
  rw [t, e]
  omega
def tb7 (s : Md) (x : Int32) : Int32 := if s.1 5 ≤ x then -1 else (s.2.2.2 2 (Int32.toNatClampNeg x)) &&& 255
theorem wq_X7_byteAt {post : Int32 → Prop} {s0 : Md} {x1 : Int32} {N R W D : Int} (h : mb N R W D s0) (hx : 0 ≤ x1.toInt) (k : ∀ r : Int32, (r.toInt = -1 ∧ N ≤ x1.toInt) ∨ (0 ≤ r.toInt ∧ r.toInt ≤ 255 ∧ x1.toInt < N) → r = tb7 s0 x1 → post r) : wp_X7_byteAt post s0 x1 := by
  unfold wp_X7_byteAt
  have q0 := h.1
  have q1 := h.2.2.1
  have m1 : (-1 : Int32).toInt = -1 := rfl
  refine ⟨fun c => k _ (Or.inl ⟨m1, by have := q_le c; omega⟩) (by unfold tb7; rw [if_pos c]), fun c => ?_⟩
  have c2 := q_nle c
  have a := and255 (s0.2.2.2 2 (Int32.toNatClampNeg x1))
  exact ⟨vi (by omega) (by omega), k _ (Or.inr ⟨a.1, a.2, by omega⟩) (by unfold tb7; rw [if_neg c])⟩
theorem wq_X7_nextByte_L0 {post : Int32 → Md → Prop} {e26 : Md → Prop} {s : Md} {N R W D : Int} (hs : mb N R W D s) (h6 : 0 ≤ (s.1 6).toInt) (ke : ∀ t : Md, mb N R W D t → ie [6] t.1 s.1 → t.2 = s.2 → (s.1 6).toInt ≤ (t.1 6).toInt ∧ (t.1 6).toInt ≤ N → (¬ tb7 s (s.1 6) = 32 → t = s) → ¬ tb7 t (t.1 6) = 32 → e26 t) : ∀ (n : Nat) (t : Md), mb N R W D t → ie [6] t.1 s.1 → t.2 = s.2 → (s.1 6).toInt ≤ (t.1 6).toInt ∧ (t.1 6).toInt ≤ N → (¬ tb7 s (s.1 6) = 32 → t = s) → N - (t.1 6).toInt < (n : Int) → wp_X7_nextByte_L0 post e26 n t := by
  have e1 : (1 : Int32).toInt = 1 := rfl
  have e32 : (32 : Int32).toInt = 32 := rfl
  intro n
  induction n with
  | zero =>
    intro t _ _ _ _ _ _
    exfalso
    omega
  | succ n ih =>
    intro t h a1 a2 a3 a5 hm
    unfold wp_X7_nextByte_L0
    refine wq_X7_byteAt h (by omega) (fun r b1 b2 => ⟨fun c => ke t h a1 a2 a3 a5 (fun g => c (b2.trans g)), fun c => ?_⟩)
    have c2 := q_eq c
    have pn := h.2.2.1
    have s1 := nw (tq_addr e1 (t.1 6)) (by omega)
    have e6 : (((va_up t.1 6 ((t.1 6) + 1)), t.2.1, t.2.2.1, t.2.2.2) : Md).1 6 = t.1 6 + 1 := rfl
    refine ih _ (mb_i h rfl rfl rfl) (ie_up a1 (by decide)) a2 ?_ (fun g => ?_) ?_
    · rw [e6]
      omega
    · exfalso
      have tt : tb7 t (t.1 6) = 32 := b2.symm.trans c
      rw [a5 g] at tt
      exact g tt
    · rw [e6]
      omega
theorem wq_X7_nextByte {post : Int32 → Md → Prop} {s0 : Md} {N R W D : Int} (h : mb N R W D s0) (h6 : 0 ≤ (s0.1 6).toInt ∧ (s0.1 6).toInt ≤ N) (k : ∀ (r : Int32) (u : Md), mb N R W D u → ie [6] u.1 s0.1 → (s0.1 6).toInt ≤ (u.1 6).toInt ∧ (u.1 6).toInt ≤ N → (r.toInt = -1 ∧ (u.1 6).toInt = N) ∨ (0 ≤ r.toInt ∧ r.toInt ≤ 255 ∧ (u.1 6).toInt < N) → u.2 = s0.2 ∧ r = tb7 u (u.1 6) ∧ ¬ tb7 u (u.1 6) = 32 ∧ (¬ tb7 s0 (s0.1 6) = 32 → u = s0) → post r u) : wp_X7_nextByte post s0 := by
  unfold wp_X7_nextByte
  have pn := h.2.2.1
  obtain ⟨nf, hf⟩ := fu_e 500
  refine ⟨nf, wq_X7_nextByte_L0 h h6.1 (fun t b1 b2 b3 b4 b5 b6 => ?_) nf s0 h (ie_refl _ _) rfl ⟨Int.le_refl _, h6.2⟩ (fun _ => rfl) (by omega)⟩
  exact wq_X7_byteAt b1 (by omega) (fun r c1 c2 => k r t b1 b2 b4 (by omega) ⟨b3, c2, b6, b5⟩)
theorem ch_b : ∀ i, i < 12 → ∀ j, j < st_len.getD i 0 → 97 ≤ (chv i j).toInt ∧ (chv i j).toInt ≤ 122 := by decide +kernel
theorem wq_X7_charAtB {post : Int32 → Prop} {i0 : Nat} {x1 : Int32} (h : 0 ≤ x1.toInt ∧ x1.toInt < ln i0) (k : ∀ r : Int32, 97 ≤ r.toInt ∧ r.toInt ≤ 122 → post r) : wp_J0_charAt_5068e post i0 x1 := by
  unfold wp_J0_charAt_5068e wp_J0_isLatin1_aae02
  have l := st_le i0
  have h2 : x1.toInt < ((st_len.getD i0 0 : Nat) : Int) := h.2
  have t := tq_ofn (n := st_len.getD i0 0) (by omega)
  have g : i0 < 12 := st_lt (by omega)
  have hj : Int32.toNatClampNeg x1 < st_len.getD i0 0 := by
    rw [tn_i]
    omega
  have ch : narrow .char (.int (chv i0 (Int32.toNatClampNeg x1))) = .int (chv i0 (Int32.toNatClampNeg x1)) := congrArg (fun z => (.int z : Value)) (ch_ok i0 g _ (by omega))
  refine ⟨fun c => absurd c (by decide), fun _ => ?_⟩
  unfold wp_J1_charAt_3b067 wp_J0_checkIndex_df160 wp_J3_checkIndex_8e157_n
  refine ⟨fun c => ?_, fun c => ⟨fun d => ?_, fun d => ?_⟩⟩
  · have := q_lt c
    have e0 : (0 : Int32).toInt = 0 := rfl
    exfalso
    omega
  · exact ⟨vi h.1 h2, ch, ch, k _ (ch_b i0 g _ hj)⟩
  · have := q_nlt d
    exfalso
    omega
theorem wq_X7_fails {post : Int32 → Md → Prop} {s0 : Md} {x1 : Int32} {x2 : Int32} {N R W D : Int} (h102151 : mb (N) (R) (W) (D) s0) (k : ∀ (r : Int32) (u : Md), mb (N) (R) (W) (D) u → ie [7] u.1 s0.1 → (r).toInt = 0 → post r u) : wp_X7_fails post s0 x1 x2 := by
  unfold wp_X7_fails
  have := h102151.1
  have := h102151.2.1
  have := h102151.2.2.1
  have := h102151.2.2.2.1
  have p102152 : (s0.1 5).toInt = N := by omega
  have p102153 : 0 ≤ (s0.1 0).toInt ∧ (s0.1 0).toInt ≤ 10 := by omega
  have p102154 : 0 ≤ N ∧ N ≤ 400 := by omega
  have p102155 : 0 ≤ R ∧ R ≤ 6 ∧ 0 ≤ W ∧ W ≤ 10 ∧ 0 ≤ R * W ∧ R * W ≤ 40 ∧ 0 ≤ D ∧ D ≤ 4 ∧ (D ≤ 0 ∨ 1 ≤ R) ∧ (1 ≤ R ∨ R * W = 0) := by omega
  have B102156 : mb (N) (R) (W) (D) ((va_up s0.1 7 ((8 * x2) + x1)), s0.2.1, s0.2.2.1, s0.2.2.2) := ⟨p102152, p102153, p102154, p102155, h102151.2.2.2.2.1, h102151.2.2.2.2.2.1, h102151.2.2.2.2.2.2.1, h102151.2.2.2.2.2.2.2⟩
  have p102157 : ie [7] (va_up s0.1 7 ((8 * x2) + x1)) s0.1 := (ie_up (ie_refl _ _) (by decide))
  have p102158 : (0 : Int32).toInt = 0 := by (have := li_0; omega)
  exact k _ _ B102156 p102157 p102158
theorem wq_X7_isWord_L22 {i1 : Nat} {post : Int32 → Md → Prop} {e51 : Md → Int32 → Int32 → Prop} {N R W D Z : Int} {A : Nat → Int32} (ke51 : ∀ (t0 : Md) (z2 : Int32) (z3 : Int32), mb (N) (R) (W) (D) t0 → ie [] t0.1 A → 0 ≤ (z3).toInt ∧ (z3).toInt ≤ ln i1 → 0 ≤ (z2).toInt ∧ (z2).toInt + (z3).toInt ≤ N → (z2).toInt = Z → e51 t0 z2 z3) : ∀ (n : Nat) (t0 : Md) (z2 : Int32) (z3 : Int32), mb (N) (R) (W) (D) t0 → ie [] t0.1 A → 0 ≤ (z3).toInt ∧ (z3).toInt ≤ ln i1 → 0 ≤ (z2).toInt ∧ (z2).toInt + (z3).toInt ≤ N → (z2).toInt = Z → ln i1 - (z3).toInt < (n : Int) → wp_X7_isWord_L22 i1 post e51 n t0 z2 z3 := by
  intro n
  induction n with
  | zero =>
    intro t0 z2 z3 i102159 i102160 i102161 i102162 i102163 i102164
    have := i102159.1
    have := i102159.2.1
    have := i102159.2.2.1
    have := i102159.2.2.2.1
    exfalso
    omega
  | succ n ih =>
    intro t0 z2 z3 i102159 i102160 i102161 i102162 i102163 i102164
    unfold wp_X7_isWord_L22
    have := i102159.1
    have := i102159.2.1
    have := i102159.2.2.1
    have := i102159.2.2.2.1
    refine wq_J0_length_8abf5 (fun r_4 q102165 q102166 => ?_)
    refine ⟨fun c102167 => ?_, fun c102168 => ?_⟩
    · replace c102167 := q_le c102167
      have p102169 : ie [] t0.1 A := (ie_tr i102160 (by decide) (ie_refl _ _))
      have p102170 : 0 ≤ (z3).toInt ∧ (z3).toInt ≤ ln i1 := by omega
      have p102171 : 0 ≤ (z2).toInt ∧ (z2).toInt + (z3).toInt ≤ N := by omega
      have p102172 : (z2).toInt = Z := by omega
      exact ke51 _ _ _ i102159 p102169 p102170 p102171 p102172
    · replace c102168 := q_nle c102168
      have e102173 := tq_add z2 z3
      try rw [Int.emod_eq_of_lt (show 0 ≤ (z2).toInt + (z3).toInt + 2147483648 by omega) (show (z2).toInt + (z3).toInt + 2147483648 < 4294967296 by omega)] at e102173
      have p102174 : 0 ≤ (z2 + z3).toInt := by omega
      refine wq_X7_byteAt i102159 p102174 (fun r_7 q102175 q102176 => ?_)
      have p102177 : 0 ≤ (z3).toInt ∧ (z3).toInt < ln i1 := by omega
      refine wq_X7_charAtB p102177 (fun r_9 q102178 => ?_)
      refine ⟨fun c102179 => ?_, fun c102180 => ?_⟩
      · replace c102179 := q_neq c102179
        have p102181 : ie [] t0.1 A := (ie_tr i102160 (by decide) (ie_refl _ _))
        have p102182 : 0 ≤ (z3).toInt ∧ (z3).toInt ≤ ln i1 := by omega
        have p102183 : 0 ≤ (z2).toInt ∧ (z2).toInt + (z3).toInt ≤ N := by omega
        have p102184 : (z2).toInt = Z := by omega
        exact ke51 _ _ _ i102159 p102181 p102182 p102183 p102184
      · replace c102180 := q_eq c102180
        have p102185 : ie [] t0.1 A := (ie_tr i102160 (by decide) (ie_refl _ _))
        have e102186 := tq_addr li_1 z3
        try rw [Int.emod_eq_of_lt (show 0 ≤ (z3).toInt + 1 + 2147483648 by omega) (show (z3).toInt + 1 + 2147483648 < 4294967296 by omega)] at e102186
        have p102187 : 0 ≤ (z3 + 1).toInt ∧ (z3 + 1).toInt ≤ ln i1 := by omega
        have p102188 : 0 ≤ (z2).toInt ∧ (z2).toInt + (z3 + 1).toInt ≤ N := by omega
        have p102189 : (z2).toInt = Z := by omega
        have p102190 : ln i1 - (z3 + 1).toInt < ((n : Nat) : Int) := by (omega)
        exact ih _ _ _ i102159 p102185 p102187 p102188 p102189 p102190
theorem wq_X7_isWord_L22b {i1 : Nat} {post : Int32 → Md → Prop} {e51 : Md → Int32 → Int32 → Prop} {N R W D Z : Int} {A : Nat → Int32} (ke51 : ∀ (t0 : Md) (z2 : Int32) (z3 : Int32), mb (N) (R) (W) (D) t0 → ie [] t0.1 A → 0 ≤ (z3).toInt ∧ (z3).toInt ≤ ln i1 → 0 ≤ (z2).toInt ∧ (z2).toInt + (z3).toInt ≤ N → (z2).toInt = Z → e51 t0 z2 z3) : ∀ (n : Nat) (t0 : Md) (z2 : Int32) (z3 : Int32), mb (N) (R) (W) (D) t0 → ie [] t0.1 A → 0 ≤ (z3).toInt ∧ (z3).toInt ≤ ln i1 → 0 ≤ (z2).toInt ∧ (z2).toInt + (z3).toInt ≤ N → (z2).toInt = Z → ln i1 - (z3).toInt < (n : Int) → wp_X7_isWord_L22b i1 post e51 n t0 z2 z3 := by
  intro n
  induction n with
  | zero =>
    intro t0 z2 z3 i102191 i102192 i102193 i102194 i102195 i102196
    have := i102191.1
    have := i102191.2.1
    have := i102191.2.2.1
    have := i102191.2.2.2.1
    exfalso
    omega
  | succ n ih =>
    intro t0 z2 z3 i102191 i102192 i102193 i102194 i102195 i102196
    unfold wp_X7_isWord_L22b
    have := i102191.1
    have := i102191.2.1
    have := i102191.2.2.1
    have := i102191.2.2.2.1
    refine wq_J0_length_8abf5 (fun r_20 q102197 q102198 => ?_)
    refine ⟨fun c102199 => ?_, fun c102200 => ?_⟩
    · replace c102199 := q_le c102199
      have p102201 : ie [] t0.1 A := (ie_tr i102192 (by decide) (ie_refl _ _))
      have p102202 : 0 ≤ (z3).toInt ∧ (z3).toInt ≤ ln i1 := by omega
      have p102203 : 0 ≤ (z2).toInt ∧ (z2).toInt + (z3).toInt ≤ N := by omega
      have p102204 : (z2).toInt = Z := by omega
      exact ke51 _ _ _ i102191 p102201 p102202 p102203 p102204
    · replace c102200 := q_nle c102200
      have e102205 := tq_add z2 z3
      try rw [Int.emod_eq_of_lt (show 0 ≤ (z2).toInt + (z3).toInt + 2147483648 by omega) (show (z2).toInt + (z3).toInt + 2147483648 < 4294967296 by omega)] at e102205
      have p102206 : 0 ≤ (z2 + z3).toInt := by omega
      refine wq_X7_byteAt i102191 p102206 (fun r_23 q102207 q102208 => ?_)
      have p102209 : 0 ≤ (z3).toInt ∧ (z3).toInt < ln i1 := by omega
      refine wq_X7_charAtB p102209 (fun r_25 q102210 => ?_)
      refine ⟨fun c102211 => ?_, fun c102212 => ?_⟩
      · replace c102211 := q_neq c102211
        have p102213 : ie [] t0.1 A := (ie_tr i102192 (by decide) (ie_refl _ _))
        have p102214 : 0 ≤ (z3).toInt ∧ (z3).toInt ≤ ln i1 := by omega
        have p102215 : 0 ≤ (z2).toInt ∧ (z2).toInt + (z3).toInt ≤ N := by omega
        have p102216 : (z2).toInt = Z := by omega
        exact ke51 _ _ _ i102191 p102213 p102214 p102215 p102216
      · replace c102212 := q_eq c102212
        have p102217 : ie [] t0.1 A := (ie_tr i102192 (by decide) (ie_refl _ _))
        have e102218 := tq_addr li_1 z3
        try rw [Int.emod_eq_of_lt (show 0 ≤ (z3).toInt + 1 + 2147483648 by omega) (show (z3).toInt + 1 + 2147483648 < 4294967296 by omega)] at e102218
        have p102219 : 0 ≤ (z3 + 1).toInt ∧ (z3 + 1).toInt ≤ ln i1 := by omega
        have p102220 : 0 ≤ (z2).toInt ∧ (z2).toInt + (z3 + 1).toInt ≤ N := by omega
        have p102221 : (z2).toInt = Z := by omega
        have p102222 : ln i1 - (z3 + 1).toInt < ((n : Nat) : Int) := by (omega)
        exact ih _ _ _ i102191 p102217 p102219 p102220 p102221 p102222
theorem wq_X7_isWord {post : Int32 → Md → Prop} {s0 : Md} {i1 : Nat} {N R W D : Int} (h102223 : mb (N) (R) (W) (D) s0) (h102224 : 0 ≤ (s0.1 6).toInt ∧ (s0.1 6).toInt ≤ N) (h102225 : 1 ≤ ln i1) (k : ∀ (r : Int32) (u : Md), mb (N) (R) (W) (D) u → ie [6] u.1 s0.1 → (r).toInt = 0 ∨ (r).toInt = 1 → (s0.1 6).toInt ≤ (u.1 6).toInt ∧ (u.1 6).toInt ≤ N → (r).toInt = 0 ∨ (u.1 6).toInt + ln i1 ≤ N → post r u) : wp_X7_isWord post s0 i1 := by
  unfold wp_X7_isWord
  have := h102223.1
  have := h102223.2.1
  have := h102223.2.2.1
  have := h102223.2.2.2.1
  have p102226 : 0 ≤ (s0.1 6).toInt ∧ (s0.1 6).toInt ≤ N := by omega
  refine wq_X7_nextByte h102223 p102226 (fun r_1 u_2 q102227 q102228 q102229 q102230 q102231 => ?_)
  have := q102227.1
  have := q102227.2.1
  refine ⟨fun c102232 => ?_, fun c102233 => ?_⟩
  · replace c102232 := q_neq c102232
    rw [li_m1] at c102232
    have p102234 : ie [] u_2.1 u_2.1 := (ie_refl _ _)
    have p102235 : 0 ≤ (0 : Int32).toInt ∧ (0 : Int32).toInt ≤ ln i1 := by (have := li_0; omega)
    have p102236 : 0 ≤ (u_2.1 6).toInt ∧ (u_2.1 6).toInt + (0 : Int32).toInt ≤ N := by (have := li_0; omega)
    have p102237 : (u_2.1 6).toInt = ((u_2.1 6).toInt) := by omega
    obtain ⟨f102238, g102239⟩ := fu_e 50
    have p102240 : ln i1 - (0 : Int32).toInt < (f102238 : Int) := by (have := li_0; omega)
    refine ⟨f102238, wq_X7_isWord_L22 (fun t0 z2 z3 q102241 q102242 q102243 q102244 q102245 => ?_) f102238 _ _ _ q102227 p102234 p102235 p102236 p102237 p102240⟩
    have := q102241.1
    have := q102241.2.1
    refine wq_J0_length_8abf5 (fun r_12 q102246 q102247 => ?_)
    refine ⟨fun c102248 => ?_, fun c102249 => ?_⟩
    · replace c102248 := q_neq c102248
      have p102250 : ie [6] t0.1 s0.1 := (ie_tr q102242 (by decide) (ie_tr q102228 (by decide) (ie_refl _ _)))
      have p102251 : (0 : Int32).toInt = 0 ∨ (0 : Int32).toInt = 1 := by (have := li_0; omega)
      have : (t0.1 6).toInt = (u_2.1 6).toInt := ie_i q102242 6 (by decide)
      have p102252 : (s0.1 6).toInt ≤ (t0.1 6).toInt ∧ (t0.1 6).toInt ≤ N := by omega
      have p102253 : (0 : Int32).toInt = 0 ∨ (t0.1 6).toInt + ln i1 ≤ N := by (have := li_0; omega)
      exact k _ _ q102241 p102250 p102251 p102252 p102253
    · replace c102249 := q_eq c102249
      have e102254 := tq_add z2 z3
      try rw [Int.emod_eq_of_lt (show 0 ≤ (z2).toInt + (z3).toInt + 2147483648 by omega) (show (z2).toInt + (z3).toInt + 2147483648 < 4294967296 by omega)] at e102254
      have p102255 : 0 ≤ (z2 + z3).toInt := by omega
      refine wq_X7_byteAt q102241 p102255 (fun r_15 q102256 q102257 => ?_)
      refine wq_X7_in (fun r_17 q102258 => ?_)
      try simp only [lj_97, lj_122] at q102258
      have := tq_64 r_15
      refine ⟨fun c102259 => ?_, fun c102260 => ?_⟩
      · replace c102259 := q_neq c102259
        rw [li_0] at c102259
        have p102261 : ie [6] t0.1 s0.1 := (ie_tr q102242 (by decide) (ie_tr q102228 (by decide) (ie_refl _ _)))
        have p102262 : (0 : Int32).toInt = 0 ∨ (0 : Int32).toInt = 1 := by (have := li_0; omega)
        have : (t0.1 6).toInt = (u_2.1 6).toInt := ie_i q102242 6 (by decide)
        have p102263 : (s0.1 6).toInt ≤ (t0.1 6).toInt ∧ (t0.1 6).toInt ≤ N := by omega
        have p102264 : (0 : Int32).toInt = 0 ∨ (t0.1 6).toInt + ln i1 ≤ N := by (have := li_0; omega)
        exact k _ _ q102241 p102261 p102262 p102263 p102264
      · replace c102260 := q_eq c102260
        rw [li_0] at c102260
        have p102265 : ie [6] t0.1 s0.1 := (ie_tr q102242 (by decide) (ie_tr q102228 (by decide) (ie_refl _ _)))
        have p102266 : (1 : Int32).toInt = 0 ∨ (1 : Int32).toInt = 1 := by (have := li_1; omega)
        have : (t0.1 6).toInt = (u_2.1 6).toInt := ie_i q102242 6 (by decide)
        have p102267 : (s0.1 6).toInt ≤ (t0.1 6).toInt ∧ (t0.1 6).toInt ≤ N := by omega
        have p102268 : (1 : Int32).toInt = 0 ∨ (t0.1 6).toInt + ln i1 ≤ N := by (have := li_1; omega)
        exact k _ _ q102241 p102265 p102266 p102267 p102268
  · replace c102233 := q_eq c102233
    rw [li_m1] at c102233
    have : (u_2.1 5).toInt = (s0.1 5).toInt := ie_i q102228 5 (by decide)
    have p102269 : ie [] u_2.1 u_2.1 := (ie_refl _ _)
    have p102270 : 0 ≤ (0 : Int32).toInt ∧ (0 : Int32).toInt ≤ ln i1 := by (have := li_0; omega)
    have p102271 : 0 ≤ (u_2.1 5).toInt ∧ (u_2.1 5).toInt + (0 : Int32).toInt ≤ N := by (have := li_0; omega)
    have p102272 : (u_2.1 5).toInt = ((u_2.1 5).toInt) := by omega
    obtain ⟨f102273, g102274⟩ := fu_e 50
    have p102275 : ln i1 - (0 : Int32).toInt < (f102273 : Int) := by (have := li_0; omega)
    refine ⟨f102273, wq_X7_isWord_L22b (fun t0 z2 z3 q102276 q102277 q102278 q102279 q102280 => ?_) f102273 _ _ _ q102227 p102269 p102270 p102271 p102272 p102275⟩
    have := q102276.1
    have := q102276.2.1
    refine wq_J0_length_8abf5 (fun r_28 q102281 q102282 => ?_)
    refine ⟨fun c102283 => ?_, fun c102284 => ?_⟩
    · replace c102283 := q_neq c102283
      have p102285 : ie [6] t0.1 s0.1 := (ie_tr q102277 (by decide) (ie_tr q102228 (by decide) (ie_refl _ _)))
      have p102286 : (0 : Int32).toInt = 0 ∨ (0 : Int32).toInt = 1 := by (have := li_0; omega)
      have : (t0.1 6).toInt = (u_2.1 6).toInt := ie_i q102277 6 (by decide)
      have p102287 : (s0.1 6).toInt ≤ (t0.1 6).toInt ∧ (t0.1 6).toInt ≤ N := by omega
      have p102288 : (0 : Int32).toInt = 0 ∨ (t0.1 6).toInt + ln i1 ≤ N := by (have := li_0; omega)
      exact k _ _ q102276 p102285 p102286 p102287 p102288
    · replace c102284 := q_eq c102284
      have e102289 := tq_add z2 z3
      try rw [Int.emod_eq_of_lt (show 0 ≤ (z2).toInt + (z3).toInt + 2147483648 by omega) (show (z2).toInt + (z3).toInt + 2147483648 < 4294967296 by omega)] at e102289
      have p102290 : 0 ≤ (z2 + z3).toInt := by omega
      refine wq_X7_byteAt q102276 p102290 (fun r_31 q102291 q102292 => ?_)
      refine wq_X7_in (fun r_33 q102293 => ?_)
      try simp only [lj_97, lj_122] at q102293
      have := tq_64 r_31
      refine ⟨fun c102294 => ?_, fun c102295 => ?_⟩
      · replace c102294 := q_neq c102294
        rw [li_0] at c102294
        have p102296 : ie [6] t0.1 s0.1 := (ie_tr q102277 (by decide) (ie_tr q102228 (by decide) (ie_refl _ _)))
        have p102297 : (0 : Int32).toInt = 0 ∨ (0 : Int32).toInt = 1 := by (have := li_0; omega)
        have : (t0.1 6).toInt = (u_2.1 6).toInt := ie_i q102277 6 (by decide)
        have p102298 : (s0.1 6).toInt ≤ (t0.1 6).toInt ∧ (t0.1 6).toInt ≤ N := by omega
        have p102299 : (0 : Int32).toInt = 0 ∨ (t0.1 6).toInt + ln i1 ≤ N := by (have := li_0; omega)
        exact k _ _ q102276 p102296 p102297 p102298 p102299
      · replace c102295 := q_eq c102295
        rw [li_0] at c102295
        have p102300 : ie [6] t0.1 s0.1 := (ie_tr q102277 (by decide) (ie_tr q102228 (by decide) (ie_refl _ _)))
        have p102301 : (1 : Int32).toInt = 0 ∨ (1 : Int32).toInt = 1 := by (have := li_1; omega)
        have : (t0.1 6).toInt = (u_2.1 6).toInt := ie_i q102277 6 (by decide)
        have p102302 : (s0.1 6).toInt ≤ (t0.1 6).toInt ∧ (t0.1 6).toInt ≤ N := by omega
        have p102303 : (1 : Int32).toInt = 0 ∨ (t0.1 6).toInt + ln i1 ≤ N := by (have := li_1; omega)
        exact k _ _ q102276 p102300 p102301 p102302 p102303
theorem wq_X7_takesWord {post : Int32 → Md → Prop} {s0 : Md} {i1 : Nat} {N R W D : Int} (h102304 : mb (N) (R) (W) (D) s0) (h102305 : 0 ≤ (s0.1 6).toInt ∧ (s0.1 6).toInt ≤ N) (h102306 : 1 ≤ ln i1) (k : ∀ (r : Int32) (u : Md), mb (N) (R) (W) (D) u → ie [6] u.1 s0.1 → (r).toInt = 0 ∨ (r).toInt = 1 → (s0.1 6).toInt ≤ (u.1 6).toInt ∧ (u.1 6).toInt ≤ N → post r u) : wp_X7_takesWord post s0 i1 := by
  unfold wp_X7_takesWord
  have := h102304.1
  have := h102304.2.1
  have := h102304.2.2.1
  have := h102304.2.2.2.1
  have p102307 : 0 ≤ (s0.1 6).toInt ∧ (s0.1 6).toInt ≤ N := by omega
  have p102308 : 1 ≤ ln i1 := by first | assumption | decide
  refine wq_X7_isWord h102304 p102307 p102308 (fun r_1 u_2 q102309 q102310 q102311 q102312 q102313 => ?_)
  have := q102309.1
  have := q102309.2.1
  refine ⟨fun c102314 => ?_, fun c102315 => ?_⟩
  · replace c102314 := q_eq c102314
    rw [li_0] at c102314
    refine ⟨(nb_b (by omega)), ?_⟩
    have p102316 : ie [6] u_2.1 s0.1 := (ie_tr q102310 (by decide) (ie_refl _ _))
    have p102317 : (r_1).toInt = 0 ∨ (r_1).toInt = 1 := by omega
    have p102318 : (s0.1 6).toInt ≤ (u_2.1 6).toInt ∧ (u_2.1 6).toInt ≤ N := by omega
    exact k _ _ q102309 p102316 p102317 p102318
  · replace c102315 := q_neq c102315
    rw [li_0] at c102315
    refine wq_J0_length_8abf5 (fun r_5 q102319 q102320 => ?_)
    refine ⟨(nb_b (by omega)), ?_⟩
    have : (u_2.1 5).toInt = (s0.1 5).toInt := ie_i q102310 5 (by decide)
    have p102321 : (u_2.1 5).toInt = N := by omega
    have : (u_2.1 0).toInt = (s0.1 0).toInt := ie_i q102310 0 (by decide)
    have p102322 : 0 ≤ (u_2.1 0).toInt ∧ (u_2.1 0).toInt ≤ 10 := by omega
    have p102323 : 0 ≤ N ∧ N ≤ 400 := by omega
    have p102324 : 0 ≤ R ∧ R ≤ 6 ∧ 0 ≤ W ∧ W ≤ 10 ∧ 0 ≤ R * W ∧ R * W ≤ 40 ∧ 0 ≤ D ∧ D ≤ 4 ∧ (D ≤ 0 ∨ 1 ≤ R) ∧ (1 ≤ R ∨ R * W = 0) := by omega
    have B102325 : mb (N) (R) (W) (D) ((va_up u_2.1 6 ((u_2.1 6) + r_5)), u_2.2.1, u_2.2.2.1, u_2.2.2.2) := ⟨p102321, p102322, p102323, p102324, q102309.2.2.2.2.1, q102309.2.2.2.2.2.1, q102309.2.2.2.2.2.2.1, q102309.2.2.2.2.2.2.2⟩
    have p102326 : ie [6] (va_up u_2.1 6 ((u_2.1 6) + r_5)) s0.1 := (ie_up (ie_tr q102310 (by decide) (ie_refl _ _)) (by decide))
    have p102327 : (r_1).toInt = 0 ∨ (r_1).toInt = 1 := by omega
    have e102328 := tq_add (u_2.1 6) r_5
    try rw [Int.emod_eq_of_lt (show 0 ≤ (u_2.1 6).toInt + (r_5).toInt + 2147483648 by omega) (show (u_2.1 6).toInt + (r_5).toInt + 2147483648 < 4294967296 by omega)] at e102328
    have p102329 : (s0.1 6).toInt ≤ ((u_2.1 6) + r_5).toInt ∧ ((u_2.1 6) + r_5).toInt ≤ N := by omega
    exact k _ _ B102325 p102326 p102327 p102329
theorem wq_X7_mustWord {post : Int32 → Md → Prop} {s0 : Md} {i1 : Nat} {N R W D : Int} (h102330 : mb (N) (R) (W) (D) s0) (h102331 : 0 ≤ (s0.1 6).toInt ∧ (s0.1 6).toInt ≤ N) (h102332 : 1 ≤ ln i1) (k : ∀ (r : Int32) (u : Md), mb (N) (R) (W) (D) u → ie [6, 7] u.1 s0.1 → (r).toInt = 0 ∨ (r).toInt = 1 → (s0.1 6).toInt ≤ (u.1 6).toInt ∧ (u.1 6).toInt ≤ N → post r u) : wp_X7_mustWord post s0 i1 := by
  unfold wp_X7_mustWord
  have := h102330.1
  have := h102330.2.1
  have := h102330.2.2.1
  have := h102330.2.2.2.1
  have p102333 : 0 ≤ (s0.1 6).toInt ∧ (s0.1 6).toInt ≤ N := by omega
  have p102334 : 1 ≤ ln i1 := by first | assumption | decide
  refine wq_X7_takesWord h102330 p102333 p102334 (fun r_1 u_2 q102335 q102336 q102337 q102338 => ?_)
  have := q102335.1
  have := q102335.2.1
  refine ⟨fun c102339 => ?_, fun c102340 => ?_⟩
  · replace c102339 := q_neq c102339
    rw [li_0] at c102339
    have p102341 : ie [6, 7] u_2.1 s0.1 := (ie_tr q102336 (by decide) (ie_refl _ _))
    have p102342 : (1 : Int32).toInt = 0 ∨ (1 : Int32).toInt = 1 := by (have := li_1; omega)
    have p102343 : (s0.1 6).toInt ≤ (u_2.1 6).toInt ∧ (u_2.1 6).toInt ≤ N := by omega
    exact k _ _ q102335 p102341 p102342 p102343
  · replace c102340 := q_eq c102340
    rw [li_0] at c102340
    refine wq_X7_fails q102335 (fun r_4 u_5 q102344 q102345 q102346 => ?_)
    have := q102344.1
    have := q102344.2.1
    refine ⟨fun c102347 => ?_, fun c102348 => ?_⟩
    · replace c102347 := q_eq c102347
      rw [li_0] at c102347
      have p102349 : ie [6, 7] u_5.1 s0.1 := (ie_tr q102345 (by decide) (ie_tr q102336 (by decide) (ie_refl _ _)))
      have p102350 : (0 : Int32).toInt = 0 ∨ (0 : Int32).toInt = 1 := by (have := li_0; omega)
      have : (u_5.1 6).toInt = (u_2.1 6).toInt := ie_i q102345 6 (by decide)
      have p102351 : (s0.1 6).toInt ≤ (u_5.1 6).toInt ∧ (u_5.1 6).toInt ≤ N := by omega
      exact k _ _ q102344 p102349 p102350 p102351
    · replace c102348 := q_neq c102348
      rw [li_0] at c102348
      have p102352 : ie [6, 7] u_5.1 s0.1 := (ie_tr q102345 (by decide) (ie_tr q102336 (by decide) (ie_refl _ _)))
      have p102353 : (1 : Int32).toInt = 0 ∨ (1 : Int32).toInt = 1 := by (have := li_1; omega)
      have : (u_5.1 6).toInt = (u_2.1 6).toInt := ie_i q102345 6 (by decide)
      have p102354 : (s0.1 6).toInt ≤ (u_5.1 6).toInt ∧ (u_5.1 6).toInt ≤ N := by omega
      exact k _ _ q102344 p102352 p102353 p102354
theorem wq_X7_takesByte {post : Int32 → Md → Prop} {s0 : Md} {x1 : Int32} {N R W D : Int} (h : mb N R W D s0) (h6 : 0 ≤ (s0.1 6).toInt ∧ (s0.1 6).toInt ≤ N) (hx : ¬ x1.toInt = -1) (k : ∀ (r : Int32) (u : Md), mb N R W D u → ie [6] u.1 s0.1 → (s0.1 6).toInt ≤ (u.1 6).toInt ∧ (u.1 6).toInt ≤ N → (r.toInt = 0 ∨ (r.toInt = 1 ∧ (s0.1 6).toInt < (u.1 6).toInt)) → (¬ tb7 s0 (s0.1 6) = 32 → ¬ tb7 s0 (s0.1 6) = x1 → r.toInt = 0) → post r u) : wp_X7_takesByte post s0 x1 := by
  unfold wp_X7_takesByte
  have e0 : (0 : Int32).toInt = 0 := rfl
  have e1 : (1 : Int32).toInt = 1 := rfl
  refine wq_X7_nextByte h h6 (fun r u hu ju b1 b2 b3 => ⟨fun c => k _ _ hu ju b1 (Or.inl e0) (fun _ _ => e0), fun c => ?_⟩)
  have c2 := q_eq c
  have pn := hu.2.2.1
  have s1 := nw (tq_addr e1 (u.1 6)) (by omega)
  have e6 : (((va_up u.1 6 ((u.1 6) + 1)), u.2.1, u.2.2.1, u.2.2.2) : Md).1 6 = u.1 6 + 1 := rfl
  refine k _ _ (mb_i hu rfl rfl rfl) (ie_up ju (by decide)) ?_ (Or.inr ⟨e1, ?_⟩) (fun g1 g2 => ?_)
  · rw [e6]
    omega
  · rw [e6]
    omega
  · exfalso
    have e := b3.2.2.2 g1
    have q := b3.2.1
    rw [e] at q
    exact g2 (q.symm.trans c)
