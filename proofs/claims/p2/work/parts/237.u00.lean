theorem and255 (a : Int32) : 0 ≤ (a &&& 255).toInt ∧ (a &&& 255).toInt ≤ 255 := by
  have e : (a &&& 255).toBitVec.toNat = a.toBitVec.toNat &&& 255 := by
    rw [Int32.toBitVec_and, BitVec.toNat_and]
    rfl
  have l : a.toBitVec.toNat &&& 255 ≤ 255 := Nat.and_le_right
  have t : (a &&& 255).toInt = ((a &&& 255).toBitVec.toNat : Int) := by
    show (a &&& 255).toBitVec.toInt = _
    rw [BitVec.toInt_eq_toNat_of_lt (by rw [e]; omega)]
  rw [t, e]
  omega
def tb7 (s : Md) (x : Int32) : Int32 := if s.1 5 ≤ x then -1 else (s.2.2.2 2 (Int32.toNatClampNeg x)) &&& 255
theorem wq_X7_byteAt {post : Int32 → Prop} {s0 : Md} {x1 : Int32} {N R W D : Int} (h : mb N R W D s0) (hx : 0 ≤ x1.toInt) (k : ∀ r : Int32, (r.toInt = -1 ∧ N ≤ x1.toInt) ∨ (0 ≤ r.toInt ∧ r.toInt ≤ 255 ∧ x1.toInt < N) → r = tb7 s0 x1 → post r) : wp_X7_byteAt post s0 x1 := by
  unfold wp_X7_byteAt
  have q0 := h.1
  have q1 := h.2.2.1
  have m1 : (-1 : Int32).toInt = -1 := rfl
  refine ⟨fun c => k _ (Or.inl ⟨m1, by have := q_le c; omega⟩) (by unfold tb7; rw [if_pos c]), fun c => ?_⟩
  have c2 := q_nle c
  have a := and255 (s0.2.2.2 2 (Int32.toNatClampNeg x1))
  exact ⟨vi (by omega) (by omega), k _ (Or.inr ⟨a.1, a.2, by omega⟩) (by unfold tb7; rw [if_neg c])⟩
theorem wq_X7_nextByte_L0 {post : Int32 → Md → Prop} {e26 : Md → Prop} {s : Md} {N R W D : Int} (hs : mb N R W D s) (h6 : 0 ≤ (s.1 6).toInt) (ke : ∀ t : Md, mb N R W D t → ie [6] t.1 s.1 → t.2 = s.2 → (s.1 6).toInt ≤ (t.1 6).toInt ∧ (t.1 6).toInt ≤ N → (¬ tb7 s (s.1 6) = 32 → t = s) → ¬ tb7 t (t.1 6) = 32 → e26 t) : ∀ (n : Nat) (t : Md), mb N R W D t → ie [6] t.1 s.1 → t.2 = s.2 → (s.1 6).toInt ≤ (t.1 6).toInt ∧ (t.1 6).toInt ≤ N → (¬ tb7 s (s.1 6) = 32 → t = s) → N - (t.1 6).toInt < (n : Int) → wp_X7_nextByte_L0 post e26 n t := by
  have e1 : (1 : Int32).toInt = 1 := rfl
  have e32 : (32 : Int32).toInt = 32 := rfl
  intro n
  induction n with
  | zero =>
    intro t _ _ _ _ _ _
    exfalso
    omega
  | succ n ih =>
    intro t h a1 a2 a3 a5 hm
    unfold wp_X7_nextByte_L0
    refine wq_X7_byteAt h (by omega) (fun r b1 b2 => ⟨fun c => ke t h a1 a2 a3 a5 (fun g => c (b2.trans g)), fun c => ?_⟩)
    have c2 := q_eq c
    have pn := h.2.2.1
    have s1 := nw (tq_addr e1 (t.1 6)) (by omega)
    have e6 : (((va_up t.1 6 ((t.1 6) + 1)), t.2.1, t.2.2.1, t.2.2.2) : Md).1 6 = t.1 6 + 1 := rfl
    refine ih _ (mb_i h rfl rfl rfl) (ie_up a1 (by decide)) a2 ?_ (fun g => ?_) ?_
    · rw [e6]
      omega
    · exfalso
      have tt : tb7 t (t.1 6) = 32 := b2.symm.trans c
      rw [a5 g] at tt
      exact g tt
    · rw [e6]
      omega
theorem wq_X7_nextByte {post : Int32 → Md → Prop} {s0 : Md} {N R W D : Int} (h : mb N R W D s0) (h6 : 0 ≤ (s0.1 6).toInt ∧ (s0.1 6).toInt ≤ N) (k : ∀ (r : Int32) (u : Md), mb N R W D u → ie [6] u.1 s0.1 → (s0.1 6).toInt ≤ (u.1 6).toInt ∧ (u.1 6).toInt ≤ N → (r.toInt = -1 ∧ (u.1 6).toInt = N) ∨ (0 ≤ r.toInt ∧ r.toInt ≤ 255 ∧ (u.1 6).toInt < N) → u.2 = s0.2 → r = tb7 u (u.1 6) ∧ ¬ tb7 u (u.1 6) = 32 ∧ (¬ tb7 s0 (s0.1 6) = 32 → u = s0) → post r u) : wp_X7_nextByte post s0 := by
  unfold wp_X7_nextByte
  have pn := h.2.2.1
  obtain ⟨nf, hf⟩ := fu_e 500
  refine ⟨nf, wq_X7_nextByte_L0 h h6.1 (fun t b1 b2 b3 b4 b5 b6 => ?_) nf s0 h (ie_refl _ _) rfl ⟨Int.le_refl _, h6.2⟩ (fun _ => rfl) (by omega)⟩
  exact wq_X7_byteAt b1 (by omega) (fun r c1 c2 => k r t b1 b2 b4 (by omega) b3 ⟨c2, b6, b5⟩)
theorem ch_b : ∀ i, i < 12 → ∀ j, j < st_len.getD i 0 → 97 ≤ (chv i j).toInt ∧ (chv i j).toInt ≤ 122 := by decide +kernel
theorem wq_X7_charAtB {post : Int32 → Prop} {i0 : Nat} {x1 : Int32} (h : 0 ≤ x1.toInt ∧ x1.toInt < ln i0) (k : ∀ r : Int32, 97 ≤ r.toInt ∧ r.toInt ≤ 122 → post r) : wp_J0_charAt_5068e post i0 x1 := by
  unfold wp_J0_charAt_5068e wp_J0_isLatin1_aae02
  have l := st_le i0
  have h2 : x1.toInt < ((st_len.getD i0 0 : Nat) : Int) := h.2
  have t := tq_ofn (n := st_len.getD i0 0) (by omega)
  have g : i0 < 12 := st_lt (by omega)
  have hj : Int32.toNatClampNeg x1 < st_len.getD i0 0 := by
    rw [tn_i]
    omega
  have ch : narrow .char (.int (chv i0 (Int32.toNatClampNeg x1))) = .int (chv i0 (Int32.toNatClampNeg x1)) := congrArg (fun z => (.int z : Value)) (ch_ok i0 g _ (by omega))
  refine ⟨fun c => absurd c (by decide), fun _ => ?_⟩
  unfold wp_J1_charAt_3b067 wp_J0_checkIndex_df160 wp_J3_checkIndex_8e157_n
  refine ⟨fun c => ?_, fun c => ⟨fun d => ?_, fun d => ?_⟩⟩
  · have := q_lt c
    have e0 : (0 : Int32).toInt = 0 := rfl
    exfalso
    omega
  · exact ⟨vi h.1 h2, ch, ch, k _ (ch_b i0 g _ hj)⟩
  · have := q_nlt d
    exfalso
    omega
theorem wq_X7_fails {post : Int32 → Md → Prop} {s0 : Md} {x1 : Int32} {x2 : Int32} {N R W D : Int} (h102151 : mb (N) (R) (W) (D) s0) (k : ∀ (r : Int32) (u : Md), mb (N) (R) (W) (D) u → ie [7] u.1 s0.1 → (r).toInt = 0 → u.2 = s0.2 → post r u) : wp_X7_fails post s0 x1 x2 := by
  unfold wp_X7_fails
  have := h102151.1
  have := h102151.2.1
  have := h102151.2.2.1
  have := h102151.2.2.2.1
  have p102152 : (s0.1 5).toInt = N := by omega
  have p102153 : 0 ≤ (s0.1 0).toInt ∧ (s0.1 0).toInt ≤ 10 := by omega
  have p102154 : 0 ≤ N ∧ N ≤ 400 := by omega
  have p102155 : 0 ≤ R ∧ R ≤ 6 ∧ 0 ≤ W ∧ W ≤ 10 ∧ 0 ≤ R * W ∧ R * W ≤ 40 ∧ 0 ≤ D ∧ D ≤ 4 ∧ (D ≤ 0 ∨ 1 ≤ R) ∧ (1 ≤ R ∨ R * W = 0) := by omega
  have B102156 : mb (N) (R) (W) (D) ((va_up s0.1 7 ((8 * x2) + x1)), s0.2.1, s0.2.2.1, s0.2.2.2) := ⟨p102152, p102153, p102154, p102155, h102151.2.2.2.2.1, h102151.2.2.2.2.2.1, h102151.2.2.2.2.2.2.1, h102151.2.2.2.2.2.2.2⟩
  have p102157 : ie [7] (va_up s0.1 7 ((8 * x2) + x1)) s0.1 := (ie_up (ie_refl _ _) (by decide))
  have p102158 : (0 : Int32).toInt = 0 := by (have := li_0; omega)
  have p102159 : s0.2 = s0.2 := rfl
  exact k _ _ B102156 p102157 p102158 p102159
theorem wq_X7_isWord_L22 {i1 : Nat} {post : Int32 → Md → Prop} {e51 : Md → Int32 → Int32 → Prop} {N R W D Z : Int} {A : Nat → Int32} {B : Int64 × (Nat → Nat → Int64) × (Nat → Nat → Int32)} (ke51 : ∀ (t0 : Md) (z2 : Int32) (z3 : Int32), mb (N) (R) (W) (D) t0 → ie [] t0.1 A → 0 ≤ (z3).toInt ∧ (z3).toInt ≤ ln i1 → 0 ≤ (z2).toInt ∧ (z2).toInt + (z3).toInt ≤ N → (z2).toInt = Z → t0.2 = B → e51 t0 z2 z3) : ∀ (n : Nat) (t0 : Md) (z2 : Int32) (z3 : Int32), mb (N) (R) (W) (D) t0 → ie [] t0.1 A → 0 ≤ (z3).toInt ∧ (z3).toInt ≤ ln i1 → 0 ≤ (z2).toInt ∧ (z2).toInt + (z3).toInt ≤ N → (z2).toInt = Z → t0.2 = B → ln i1 - (z3).toInt < (n : Int) → wp_X7_isWord_L22 i1 post e51 n t0 z2 z3 := by
  intro n
  induction n with
  | zero =>
    intro t0 z2 z3 i102160 i102161 i102162 i102163 i102164 i102165 i102166
    have := i102160.1
    have := i102160.2.1
    have := i102160.2.2.1
    have := i102160.2.2.2.1
    exfalso
    omega
  | succ n ih =>
    intro t0 z2 z3 i102160 i102161 i102162 i102163 i102164 i102165 i102166
    unfold wp_X7_isWord_L22
    have := i102160.1
    have := i102160.2.1
    have := i102160.2.2.1
    have := i102160.2.2.2.1
    refine wq_J0_length_8abf5 (fun r_4 q102167 q102168 => ?_)
    refine ⟨fun c102169 => ?_, fun c102170 => ?_⟩
    · replace c102169 := q_le c102169
      have p102171 : ie [] t0.1 A := (ie_tr i102161 (by decide) (ie_refl _ _))
      have p102172 : 0 ≤ (z3).toInt ∧ (z3).toInt ≤ ln i1 := by omega
      have p102173 : 0 ≤ (z2).toInt ∧ (z2).toInt + (z3).toInt ≤ N := by omega
      have p102174 : (z2).toInt = Z := by omega
      have p102175 : t0.2 = B := i102165
      exact ke51 _ _ _ i102160 p102171 p102172 p102173 p102174 p102175
    · replace c102170 := q_nle c102170
      have e102176 := tq_add z2 z3
      try rw [Int.emod_eq_of_lt (show 0 ≤ (z2).toInt + (z3).toInt + 2147483648 by omega) (show (z2).toInt + (z3).toInt + 2147483648 < 4294967296 by omega)] at e102176
      have p102177 : 0 ≤ (z2 + z3).toInt := by omega
      refine wq_X7_byteAt i102160 p102177 (fun r_7 q102178 q102179 => ?_)
      have p102180 : 0 ≤ (z3).toInt ∧ (z3).toInt < ln i1 := by omega
      refine wq_X7_charAtB p102180 (fun r_9 q102181 => ?_)
      refine ⟨fun c102182 => ?_, fun c102183 => ?_⟩
      · replace c102182 := q_neq c102182
        have p102184 : ie [] t0.1 A := (ie_tr i102161 (by decide) (ie_refl _ _))
        have p102185 : 0 ≤ (z3).toInt ∧ (z3).toInt ≤ ln i1 := by omega
        have p102186 : 0 ≤ (z2).toInt ∧ (z2).toInt + (z3).toInt ≤ N := by omega
        have p102187 : (z2).toInt = Z := by omega
        have p102188 : t0.2 = B := i102165
        exact ke51 _ _ _ i102160 p102184 p102185 p102186 p102187 p102188
      · replace c102183 := q_eq c102183
        have p102189 : ie [] t0.1 A := (ie_tr i102161 (by decide) (ie_refl _ _))
        have e102190 := tq_addr li_1 z3
        try rw [Int.emod_eq_of_lt (show 0 ≤ (z3).toInt + 1 + 2147483648 by omega) (show (z3).toInt + 1 + 2147483648 < 4294967296 by omega)] at e102190
        have p102191 : 0 ≤ (z3 + 1).toInt ∧ (z3 + 1).toInt ≤ ln i1 := by omega
        have p102192 : 0 ≤ (z2).toInt ∧ (z2).toInt + (z3 + 1).toInt ≤ N := by omega
        have p102193 : (z2).toInt = Z := by omega
        have p102194 : t0.2 = B := i102165
        have p102195 : ln i1 - (z3 + 1).toInt < ((n : Nat) : Int) := by (omega)
        exact ih _ _ _ i102160 p102189 p102191 p102192 p102193 p102194 p102195
theorem wq_X7_isWord_L22b {i1 : Nat} {post : Int32 → Md → Prop} {e51 : Md → Int32 → Int32 → Prop} {N R W D Z : Int} {A : Nat → Int32} {B : Int64 × (Nat → Nat → Int64) × (Nat → Nat → Int32)} (ke51 : ∀ (t0 : Md) (z2 : Int32) (z3 : Int32), mb (N) (R) (W) (D) t0 → ie [] t0.1 A → 0 ≤ (z3).toInt ∧ (z3).toInt ≤ ln i1 → 0 ≤ (z2).toInt ∧ (z2).toInt + (z3).toInt ≤ N → (z2).toInt = Z → t0.2 = B → e51 t0 z2 z3) : ∀ (n : Nat) (t0 : Md) (z2 : Int32) (z3 : Int32), mb (N) (R) (W) (D) t0 → ie [] t0.1 A → 0 ≤ (z3).toInt ∧ (z3).toInt ≤ ln i1 → 0 ≤ (z2).toInt ∧ (z2).toInt + (z3).toInt ≤ N → (z2).toInt = Z → t0.2 = B → ln i1 - (z3).toInt < (n : Int) → wp_X7_isWord_L22b i1 post e51 n t0 z2 z3 := by
  intro n
  induction n with
  | zero =>
    intro t0 z2 z3 i102196 i102197 i102198 i102199 i102200 i102201 i102202
    have := i102196.1
    have := i102196.2.1
    have := i102196.2.2.1
    have := i102196.2.2.2.1
    exfalso
    omega
  | succ n ih =>
    intro t0 z2 z3 i102196 i102197 i102198 i102199 i102200 i102201 i102202
    unfold wp_X7_isWord_L22b
    have := i102196.1
    have := i102196.2.1
    have := i102196.2.2.1
    have := i102196.2.2.2.1
    refine wq_J0_length_8abf5 (fun r_20 q102203 q102204 => ?_)
    refine ⟨fun c102205 => ?_, fun c102206 => ?_⟩
    · replace c102205 := q_le c102205
      have p102207 : ie [] t0.1 A := (ie_tr i102197 (by decide) (ie_refl _ _))
      have p102208 : 0 ≤ (z3).toInt ∧ (z3).toInt ≤ ln i1 := by omega
      have p102209 : 0 ≤ (z2).toInt ∧ (z2).toInt + (z3).toInt ≤ N := by omega
      have p102210 : (z2).toInt = Z := by omega
      have p102211 : t0.2 = B := i102201
      exact ke51 _ _ _ i102196 p102207 p102208 p102209 p102210 p102211
    · replace c102206 := q_nle c102206
      have e102212 := tq_add z2 z3
      try rw [Int.emod_eq_of_lt (show 0 ≤ (z2).toInt + (z3).toInt + 2147483648 by omega) (show (z2).toInt + (z3).toInt + 2147483648 < 4294967296 by omega)] at e102212
      have p102213 : 0 ≤ (z2 + z3).toInt := by omega
      refine wq_X7_byteAt i102196 p102213 (fun r_23 q102214 q102215 => ?_)
      have p102216 : 0 ≤ (z3).toInt ∧ (z3).toInt < ln i1 := by omega
      refine wq_X7_charAtB p102216 (fun r_25 q102217 => ?_)
      refine ⟨fun c102218 => ?_, fun c102219 => ?_⟩
      · replace c102218 := q_neq c102218
        have p102220 : ie [] t0.1 A := (ie_tr i102197 (by decide) (ie_refl _ _))
        have p102221 : 0 ≤ (z3).toInt ∧ (z3).toInt ≤ ln i1 := by omega
        have p102222 : 0 ≤ (z2).toInt ∧ (z2).toInt + (z3).toInt ≤ N := by omega
        have p102223 : (z2).toInt = Z := by omega
        have p102224 : t0.2 = B := i102201
        exact ke51 _ _ _ i102196 p102220 p102221 p102222 p102223 p102224
      · replace c102219 := q_eq c102219
        have p102225 : ie [] t0.1 A := (ie_tr i102197 (by decide) (ie_refl _ _))
        have e102226 := tq_addr li_1 z3
        try rw [Int.emod_eq_of_lt (show 0 ≤ (z3).toInt + 1 + 2147483648 by omega) (show (z3).toInt + 1 + 2147483648 < 4294967296 by omega)] at e102226
        have p102227 : 0 ≤ (z3 + 1).toInt ∧ (z3 + 1).toInt ≤ ln i1 := by omega
        have p102228 : 0 ≤ (z2).toInt ∧ (z2).toInt + (z3 + 1).toInt ≤ N := by omega
        have p102229 : (z2).toInt = Z := by omega
        have p102230 : t0.2 = B := i102201
        have p102231 : ln i1 - (z3 + 1).toInt < ((n : Nat) : Int) := by (omega)
        exact ih _ _ _ i102196 p102225 p102227 p102228 p102229 p102230 p102231
theorem wq_X7_isWord {post : Int32 → Md → Prop} {s0 : Md} {i1 : Nat} {N R W D : Int} (h102232 : mb (N) (R) (W) (D) s0) (h102233 : 0 ≤ (s0.1 6).toInt ∧ (s0.1 6).toInt ≤ N) (h102234 : 1 ≤ ln i1 ∧ ln i1 ≤ 9) (k : ∀ (r : Int32) (u : Md), mb (N) (R) (W) (D) u → ie [6] u.1 s0.1 → (r).toInt = 0 ∨ (r).toInt = 1 → (s0.1 6).toInt ≤ (u.1 6).toInt ∧ (u.1 6).toInt ≤ N → (r).toInt = 0 ∨ (u.1 6).toInt + ln i1 ≤ N → u.2 = s0.2 → post r u) : wp_X7_isWord post s0 i1 := by
  unfold wp_X7_isWord
  have := h102232.1
  have := h102232.2.1
  have := h102232.2.2.1
  have := h102232.2.2.2.1
  have p102235 : 0 ≤ (s0.1 6).toInt ∧ (s0.1 6).toInt ≤ N := by omega
  refine wq_X7_nextByte h102232 p102235 (fun r_1 u_2 q102236 q102237 q102238 q102239 q102240 q102241 => ?_)
  have := q102236.1
  have := q102236.2.1
  refine ⟨fun c102242 => ?_, fun c102243 => ?_⟩
  · replace c102242 := q_neq c102242
    rw [li_m1] at c102242
    have p102244 : ie [] u_2.1 u_2.1 := (ie_refl _ _)
    have p102245 : 0 ≤ (0 : Int32).toInt ∧ (0 : Int32).toInt ≤ ln i1 := by (have := li_0; omega)
    have p102246 : 0 ≤ (u_2.1 6).toInt ∧ (u_2.1 6).toInt + (0 : Int32).toInt ≤ N := by (have := li_0; omega)
    have p102247 : (u_2.1 6).toInt = ((u_2.1 6).toInt) := by omega
    have p102248 : u_2.2 = u_2.2 := rfl
    obtain ⟨f102249, g102250⟩ := fu_e 50
    have p102251 : ln i1 - (0 : Int32).toInt < (f102249 : Int) := by (have := li_0; omega)
    refine ⟨f102249, wq_X7_isWord_L22 (fun t0 z2 z3 q102252 q102253 q102254 q102255 q102256 q102257 => ?_) f102249 _ _ _ q102236 p102244 p102245 p102246 p102247 p102248 p102251⟩
    have := q102252.1
    have := q102252.2.1
    refine wq_J0_length_8abf5 (fun r_12 q102258 q102259 => ?_)
    refine ⟨fun c102260 => ?_, fun c102261 => ?_⟩
    · replace c102260 := q_neq c102260
      have p102262 : ie [6] t0.1 s0.1 := (ie_tr q102253 (by decide) (ie_tr q102237 (by decide) (ie_refl _ _)))
      have p102263 : (0 : Int32).toInt = 0 ∨ (0 : Int32).toInt = 1 := by (have := li_0; omega)
      have : (t0.1 6).toInt = (u_2.1 6).toInt := ie_i q102253 6 (by decide)
      have p102264 : (s0.1 6).toInt ≤ (t0.1 6).toInt ∧ (t0.1 6).toInt ≤ N := by omega
      have p102265 : (0 : Int32).toInt = 0 ∨ (t0.1 6).toInt + ln i1 ≤ N := by (have := li_0; omega)
      have p102266 : t0.2 = s0.2 := (q102257.trans q102240)
      exact k _ _ q102252 p102262 p102263 p102264 p102265 p102266
    · replace c102261 := q_eq c102261
      have e102267 := tq_add z2 z3
      try rw [Int.emod_eq_of_lt (show 0 ≤ (z2).toInt + (z3).toInt + 2147483648 by omega) (show (z2).toInt + (z3).toInt + 2147483648 < 4294967296 by omega)] at e102267
      have p102268 : 0 ≤ (z2 + z3).toInt := by omega
      refine wq_X7_byteAt q102252 p102268 (fun r_15 q102269 q102270 => ?_)
      refine wq_X7_in (fun r_17 q102271 => ?_)
      try simp only [lj_97, lj_122] at q102271
      have := tq_64 r_15
      refine ⟨fun c102272 => ?_, fun c102273 => ?_⟩
      · replace c102272 := q_neq c102272
        rw [li_0] at c102272
        have p102274 : ie [6] t0.1 s0.1 := (ie_tr q102253 (by decide) (ie_tr q102237 (by decide) (ie_refl _ _)))
        have p102275 : (0 : Int32).toInt = 0 ∨ (0 : Int32).toInt = 1 := by (have := li_0; omega)
        have : (t0.1 6).toInt = (u_2.1 6).toInt := ie_i q102253 6 (by decide)
        have p102276 : (s0.1 6).toInt ≤ (t0.1 6).toInt ∧ (t0.1 6).toInt ≤ N := by omega
        have p102277 : (0 : Int32).toInt = 0 ∨ (t0.1 6).toInt + ln i1 ≤ N := by (have := li_0; omega)
        have p102278 : t0.2 = s0.2 := (q102257.trans q102240)
        exact k _ _ q102252 p102274 p102275 p102276 p102277 p102278
      · replace c102273 := q_eq c102273
        rw [li_0] at c102273
        have p102279 : ie [6] t0.1 s0.1 := (ie_tr q102253 (by decide) (ie_tr q102237 (by decide) (ie_refl _ _)))
        have p102280 : (1 : Int32).toInt = 0 ∨ (1 : Int32).toInt = 1 := by (have := li_1; omega)
        have : (t0.1 6).toInt = (u_2.1 6).toInt := ie_i q102253 6 (by decide)
        have p102281 : (s0.1 6).toInt ≤ (t0.1 6).toInt ∧ (t0.1 6).toInt ≤ N := by omega
        have p102282 : (1 : Int32).toInt = 0 ∨ (t0.1 6).toInt + ln i1 ≤ N := by (have := li_1; omega)
        have p102283 : t0.2 = s0.2 := (q102257.trans q102240)
        exact k _ _ q102252 p102279 p102280 p102281 p102282 p102283
  · replace c102243 := q_eq c102243
    rw [li_m1] at c102243
    have : (u_2.1 5).toInt = (s0.1 5).toInt := ie_i q102237 5 (by decide)
    have p102284 : ie [] u_2.1 u_2.1 := (ie_refl _ _)
    have p102285 : 0 ≤ (0 : Int32).toInt ∧ (0 : Int32).toInt ≤ ln i1 := by (have := li_0; omega)
    have p102286 : 0 ≤ (u_2.1 5).toInt ∧ (u_2.1 5).toInt + (0 : Int32).toInt ≤ N := by (have := li_0; omega)
    have p102287 : (u_2.1 5).toInt = ((u_2.1 5).toInt) := by omega
    have p102288 : u_2.2 = u_2.2 := rfl
    obtain ⟨f102289, g102290⟩ := fu_e 50
    have p102291 : ln i1 - (0 : Int32).toInt < (f102289 : Int) := by (have := li_0; omega)
    refine ⟨f102289, wq_X7_isWord_L22b (fun t0 z2 z3 q102292 q102293 q102294 q102295 q102296 q102297 => ?_) f102289 _ _ _ q102236 p102284 p102285 p102286 p102287 p102288 p102291⟩
    have := q102292.1
    have := q102292.2.1
    refine wq_J0_length_8abf5 (fun r_28 q102298 q102299 => ?_)
    refine ⟨fun c102300 => ?_, fun c102301 => ?_⟩
    · replace c102300 := q_neq c102300
      have p102302 : ie [6] t0.1 s0.1 := (ie_tr q102293 (by decide) (ie_tr q102237 (by decide) (ie_refl _ _)))
      have p102303 : (0 : Int32).toInt = 0 ∨ (0 : Int32).toInt = 1 := by (have := li_0; omega)
      have : (t0.1 6).toInt = (u_2.1 6).toInt := ie_i q102293 6 (by decide)
      have p102304 : (s0.1 6).toInt ≤ (t0.1 6).toInt ∧ (t0.1 6).toInt ≤ N := by omega
      have p102305 : (0 : Int32).toInt = 0 ∨ (t0.1 6).toInt + ln i1 ≤ N := by (have := li_0; omega)
      have p102306 : t0.2 = s0.2 := (q102297.trans q102240)
      exact k _ _ q102292 p102302 p102303 p102304 p102305 p102306
    · replace c102301 := q_eq c102301
      have e102307 := tq_add z2 z3
      try rw [Int.emod_eq_of_lt (show 0 ≤ (z2).toInt + (z3).toInt + 2147483648 by omega) (show (z2).toInt + (z3).toInt + 2147483648 < 4294967296 by omega)] at e102307
      have p102308 : 0 ≤ (z2 + z3).toInt := by omega
      refine wq_X7_byteAt q102292 p102308 (fun r_31 q102309 q102310 => ?_)
      refine wq_X7_in (fun r_33 q102311 => ?_)
      try simp only [lj_97, lj_122] at q102311
      have := tq_64 r_31
      refine ⟨fun c102312 => ?_, fun c102313 => ?_⟩
      · replace c102312 := q_neq c102312
        rw [li_0] at c102312
        have p102314 : ie [6] t0.1 s0.1 := (ie_tr q102293 (by decide) (ie_tr q102237 (by decide) (ie_refl _ _)))
        have p102315 : (0 : Int32).toInt = 0 ∨ (0 : Int32).toInt = 1 := by (have := li_0; omega)
        have : (t0.1 6).toInt = (u_2.1 6).toInt := ie_i q102293 6 (by decide)
        have p102316 : (s0.1 6).toInt ≤ (t0.1 6).toInt ∧ (t0.1 6).toInt ≤ N := by omega
        have p102317 : (0 : Int32).toInt = 0 ∨ (t0.1 6).toInt + ln i1 ≤ N := by (have := li_0; omega)
        have p102318 : t0.2 = s0.2 := (q102297.trans q102240)
        exact k _ _ q102292 p102314 p102315 p102316 p102317 p102318
      · replace c102313 := q_eq c102313
        rw [li_0] at c102313
        have p102319 : ie [6] t0.1 s0.1 := (ie_tr q102293 (by decide) (ie_tr q102237 (by decide) (ie_refl _ _)))
        have p102320 : (1 : Int32).toInt = 0 ∨ (1 : Int32).toInt = 1 := by (have := li_1; omega)
        have : (t0.1 6).toInt = (u_2.1 6).toInt := ie_i q102293 6 (by decide)
        have p102321 : (s0.1 6).toInt ≤ (t0.1 6).toInt ∧ (t0.1 6).toInt ≤ N := by omega
        have p102322 : (1 : Int32).toInt = 0 ∨ (t0.1 6).toInt + ln i1 ≤ N := by (have := li_1; omega)
        have p102323 : t0.2 = s0.2 := (q102297.trans q102240)
        exact k _ _ q102292 p102319 p102320 p102321 p102322 p102323
theorem wq_X7_takesWord {post : Int32 → Md → Prop} {s0 : Md} {i1 : Nat} {N R W D : Int} (h102324 : mb (N) (R) (W) (D) s0) (h102325 : 0 ≤ (s0.1 6).toInt ∧ (s0.1 6).toInt ≤ N) (h102326 : 1 ≤ ln i1 ∧ ln i1 ≤ 9) (k : ∀ (r : Int32) (u : Md), mb (N) (R) (W) (D) u → ie [6] u.1 s0.1 → (r).toInt = 0 ∨ (r).toInt = 1 → (s0.1 6).toInt ≤ (u.1 6).toInt ∧ (u.1 6).toInt ≤ N → u.2 = s0.2 → post r u) : wp_X7_takesWord post s0 i1 := by
  unfold wp_X7_takesWord
  have := h102324.1
  have := h102324.2.1
  have := h102324.2.2.1
  have := h102324.2.2.2.1
  have p102327 : 0 ≤ (s0.1 6).toInt ∧ (s0.1 6).toInt ≤ N := by omega
  have p102328 : 1 ≤ ln i1 ∧ ln i1 ≤ 9 := by first | assumption | decide
  refine wq_X7_isWord h102324 p102327 p102328 (fun r_1 u_2 q102329 q102330 q102331 q102332 q102333 q102334 => ?_)
  have := q102329.1
  have := q102329.2.1
  refine ⟨fun c102335 => ?_, fun c102336 => ?_⟩
  · replace c102335 := q_eq c102335
    rw [li_0] at c102335
    refine ⟨(nb_b (by omega)), ?_⟩
    have p102337 : ie [6] u_2.1 s0.1 := (ie_tr q102330 (by decide) (ie_refl _ _))
    have p102338 : (r_1).toInt = 0 ∨ (r_1).toInt = 1 := by omega
    have p102339 : (s0.1 6).toInt ≤ (u_2.1 6).toInt ∧ (u_2.1 6).toInt ≤ N := by omega
    have p102340 : u_2.2 = s0.2 := q102334
    exact k _ _ q102329 p102337 p102338 p102339 p102340
  · replace c102336 := q_neq c102336
    rw [li_0] at c102336
    refine wq_J0_length_8abf5 (fun r_5 q102341 q102342 => ?_)
    refine ⟨(nb_b (by omega)), ?_⟩
    have : (u_2.1 5).toInt = (s0.1 5).toInt := ie_i q102330 5 (by decide)
    have p102343 : (u_2.1 5).toInt = N := by omega
    have : (u_2.1 0).toInt = (s0.1 0).toInt := ie_i q102330 0 (by decide)
    have p102344 : 0 ≤ (u_2.1 0).toInt ∧ (u_2.1 0).toInt ≤ 10 := by omega
    have p102345 : 0 ≤ N ∧ N ≤ 400 := by omega
    have p102346 : 0 ≤ R ∧ R ≤ 6 ∧ 0 ≤ W ∧ W ≤ 10 ∧ 0 ≤ R * W ∧ R * W ≤ 40 ∧ 0 ≤ D ∧ D ≤ 4 ∧ (D ≤ 0 ∨ 1 ≤ R) ∧ (1 ≤ R ∨ R * W = 0) := by omega
    have B102347 : mb (N) (R) (W) (D) ((va_up u_2.1 6 ((u_2.1 6) + r_5)), u_2.2.1, u_2.2.2.1, u_2.2.2.2) := ⟨p102343, p102344, p102345, p102346, q102329.2.2.2.2.1, q102329.2.2.2.2.2.1, q102329.2.2.2.2.2.2.1, q102329.2.2.2.2.2.2.2⟩
    have p102348 : ie [6] (va_up u_2.1 6 ((u_2.1 6) + r_5)) s0.1 := (ie_up (ie_tr q102330 (by decide) (ie_refl _ _)) (by decide))
    have p102349 : (r_1).toInt = 0 ∨ (r_1).toInt = 1 := by omega
    have e102350 := tq_add (u_2.1 6) r_5
    try rw [Int.emod_eq_of_lt (show 0 ≤ (u_2.1 6).toInt + (r_5).toInt + 2147483648 by omega) (show (u_2.1 6).toInt + (r_5).toInt + 2147483648 < 4294967296 by omega)] at e102350
    have p102351 : (s0.1 6).toInt ≤ ((u_2.1 6) + r_5).toInt ∧ ((u_2.1 6) + r_5).toInt ≤ N := by omega
    have p102352 : u_2.2 = s0.2 := q102334
    exact k _ _ B102347 p102348 p102349 p102351 p102352
theorem wq_X7_mustWord {post : Int32 → Md → Prop} {s0 : Md} {i1 : Nat} {N R W D : Int} (h102353 : mb (N) (R) (W) (D) s0) (h102354 : 0 ≤ (s0.1 6).toInt ∧ (s0.1 6).toInt ≤ N) (h102355 : 1 ≤ ln i1 ∧ ln i1 ≤ 9) (k : ∀ (r : Int32) (u : Md), mb (N) (R) (W) (D) u → ie [6, 7] u.1 s0.1 → (r).toInt = 0 ∨ (r).toInt = 1 → (s0.1 6).toInt ≤ (u.1 6).toInt ∧ (u.1 6).toInt ≤ N → u.2 = s0.2 → post r u) : wp_X7_mustWord post s0 i1 := by
  unfold wp_X7_mustWord
  have := h102353.1
  have := h102353.2.1
  have := h102353.2.2.1
  have := h102353.2.2.2.1
  have p102356 : 0 ≤ (s0.1 6).toInt ∧ (s0.1 6).toInt ≤ N := by omega
  have p102357 : 1 ≤ ln i1 ∧ ln i1 ≤ 9 := by first | assumption | decide
  refine wq_X7_takesWord h102353 p102356 p102357 (fun r_1 u_2 q102358 q102359 q102360 q102361 q102362 => ?_)
  have := q102358.1
  have := q102358.2.1
  refine ⟨fun c102363 => ?_, fun c102364 => ?_⟩
  · replace c102363 := q_neq c102363
    rw [li_0] at c102363
    have p102365 : ie [6, 7] u_2.1 s0.1 := (ie_tr q102359 (by decide) (ie_refl _ _))
    have p102366 : (1 : Int32).toInt = 0 ∨ (1 : Int32).toInt = 1 := by (have := li_1; omega)
    have p102367 : (s0.1 6).toInt ≤ (u_2.1 6).toInt ∧ (u_2.1 6).toInt ≤ N := by omega
    have p102368 : u_2.2 = s0.2 := q102362
    exact k _ _ q102358 p102365 p102366 p102367 p102368
  · replace c102364 := q_eq c102364
    rw [li_0] at c102364
    refine wq_X7_fails q102358 (fun r_4 u_5 q102369 q102370 q102371 q102372 => ?_)
    have := q102369.1
    have := q102369.2.1
    refine ⟨fun c102373 => ?_, fun c102374 => ?_⟩
    · replace c102373 := q_eq c102373
      rw [li_0] at c102373
      have p102375 : ie [6, 7] u_5.1 s0.1 := (ie_tr q102370 (by decide) (ie_tr q102359 (by decide) (ie_refl _ _)))
      have p102376 : (0 : Int32).toInt = 0 ∨ (0 : Int32).toInt = 1 := by (have := li_0; omega)
      have : (u_5.1 6).toInt = (u_2.1 6).toInt := ie_i q102370 6 (by decide)
      have p102377 : (s0.1 6).toInt ≤ (u_5.1 6).toInt ∧ (u_5.1 6).toInt ≤ N := by omega
      have p102378 : u_5.2 = s0.2 := (q102372.trans q102362)
      exact k _ _ q102369 p102375 p102376 p102377 p102378
    · replace c102374 := q_neq c102374
      rw [li_0] at c102374
      have p102379 : ie [6, 7] u_5.1 s0.1 := (ie_tr q102370 (by decide) (ie_tr q102359 (by decide) (ie_refl _ _)))
      have p102380 : (1 : Int32).toInt = 0 ∨ (1 : Int32).toInt = 1 := by (have := li_1; omega)
      have : (u_5.1 6).toInt = (u_2.1 6).toInt := ie_i q102370 6 (by decide)
      have p102381 : (s0.1 6).toInt ≤ (u_5.1 6).toInt ∧ (u_5.1 6).toInt ≤ N := by omega
      have p102382 : u_5.2 = s0.2 := (q102372.trans q102362)
      exact k _ _ q102369 p102379 p102380 p102381 p102382
theorem wq_X7_takesByte {post : Int32 → Md → Prop} {s0 : Md} {x1 : Int32} {N R W D : Int} (h : mb N R W D s0) (h6 : 0 ≤ (s0.1 6).toInt ∧ (s0.1 6).toInt ≤ N) (hx : ¬ x1.toInt = -1) (k : ∀ (r : Int32) (u : Md), mb N R W D u → ie [6] u.1 s0.1 → (s0.1 6).toInt ≤ (u.1 6).toInt ∧ (u.1 6).toInt ≤ N → (r.toInt = 0 ∨ (r.toInt = 1 ∧ (s0.1 6).toInt < (u.1 6).toInt)) → u.2 = s0.2 → (¬ tb7 s0 (s0.1 6) = 32 → ¬ tb7 s0 (s0.1 6) = x1 → r.toInt = 0) → post r u) : wp_X7_takesByte post s0 x1 := by
  unfold wp_X7_takesByte
  have e0 : (0 : Int32).toInt = 0 := rfl
  have e1 : (1 : Int32).toInt = 1 := rfl
  refine wq_X7_nextByte h h6 (fun r u hu ju b1 b2 bE b3 => ⟨fun c => k _ _ hu ju b1 (Or.inl e0) bE (fun _ _ => e0), fun c => ?_⟩)
  have c2 := q_eq c
  have pn := hu.2.2.1
  have s1 := nw (tq_addr e1 (u.1 6)) (by omega)
  have e6 : (((va_up u.1 6 ((u.1 6) + 1)), u.2.1, u.2.2.1, u.2.2.2) : Md).1 6 = u.1 6 + 1 := rfl
  refine k _ _ (mb_i hu rfl rfl rfl) (ie_up ju (by decide)) ?_ (Or.inr ⟨e1, ?_⟩) bE (fun g1 g2 => ?_)
  · rw [e6]
    omega
  · rw [e6]
    omega
  · exfalso
    have e := b3.2.2 g1
    have q := b3.1
    rw [e] at q
    exact g2 (q.symm.trans c)
