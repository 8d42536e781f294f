/-! The reference's recursion, its four levels as one. -/
def GO (T : ((Int32 → Md → Prop) → Md → Int32 → Prop)) (post : Int32 → Md → Prop) (s0 : Md) (x1 : Int32) : Prop := wp_X7_isWord (fun r_1 u_2 => ((r_1 = 0 → wp_X7_isWord (fun r_4 u_5 => ((r_4 = 0 → wp_X7_isWord (fun r_7 u_8 => ((r_7 = 0 → wp_X7_isWord (fun r_10 u_11 => ((r_10 = 0 → wp_X7_isWord (fun r_13 u_14 => ((r_13 = 0 → wp_X7_isWord (fun r_16 u_17 => ((r_16 = 0 → wp_X7_isWord (fun r_19 u_20 => ((r_19 = 0 → wp_X7_fails (fun r_22 u_23 => narrow .boolean (.int r_22) = .int r_22 ∧ post r_22 u_23) u_20 (1 : Int32) (u_20.1 6)) ∧ (¬ r_19 = 0 → T (fun r_25 u_26 => narrow .boolean (.int r_25) = .int r_25 ∧ post r_25 u_26) u_20 x1))) u_17 11) ∧ (¬ r_16 = 0 → wp_X7_goesLose (fun r_28 u_29 => narrow .boolean (.int r_28) = .int r_28 ∧ post r_28 u_29) u_17 x1))) u_14 6) ∧ (¬ r_13 = 0 → wp_X7_goesSettle (fun r_31 u_32 => narrow .boolean (.int r_31) = .int r_31 ∧ post r_31 u_32) u_14 x1))) u_11 10) ∧ (¬ r_10 = 0 → wp_X7_goesWait (fun r_34 u_35 => narrow .boolean (.int r_34) = .int r_34 ∧ post r_34 u_35) u_11 x1))) u_8 9) ∧ (¬ r_7 = 0 → wp_X7_goesHome (fun r_37 u_38 => narrow .boolean (.int r_37) = .int r_37 ∧ post r_37 u_38) u_8 x1))) u_5 8) ∧ (¬ r_4 = 0 → wp_X7_goesScroll (fun r_40 u_41 => narrow .boolean (.int r_40) = .int r_40 ∧ post r_40 u_41) u_5 x1))) u_2 7) ∧ (¬ r_1 = 0 → wp_X7_goesRow (fun r_43 u_44 => narrow .boolean (.int r_43) = .int r_43 ∧ post r_43 u_44) u_2 x1))) s0 5
def GL (O : ((Int32 → Md → Prop) → Md → Int32 → Prop)) (post : Int32 → Md → Prop) (e27 : Md → Int32 → Prop) (e29 : Md → Int32 → Prop) : Nat → Md → Int32 → Prop
  | 0, _, _ => False
  | n10 + 1, t0, z1 => wp_X7_takesByte (fun r_4 u_5 => ((r_4 = 0 → e29 u_5 z1) ∧ (¬ r_4 = 0 → O (fun r_7 u_8 => ((¬ r_7 = 0 → GL O post e27 e29 n10 u_8 z1) ∧ (r_7 = 0 → e27 u_8 z1))) u_5 z1))) t0 (59 : Int32)
def GA (O : ((Int32 → Md → Prop) → Md → Int32 → Prop)) (post : Int32 → Md → Prop) (s0 : Md) (x1 : Int32) : Prop := O (fun r_1 u_2 => ((¬ r_1 = 0 → (∃ n10, GL O post (fun t0 z1 => post 0 t0) (fun t0 z1 => post 1 t0) n10 u_2 x1)) ∧ (r_1 = 0 → post 0 u_2))) s0 x1
def GTL (A : ((Int32 → Md → Prop) → Md → Int32 → Prop)) (post : Int32 → Md → Prop) (e141 : Md → Int32 → Int32 → Int32 → Int32 → Int32 → Prop) : Nat → Md → Int32 → Int32 → Int32 → Int32 → Int32 → Prop
  | 0, _, _, _, _, _, _ => False
  | n90 + 1, t0, z1, z2, z3, z4, z5 => ((z5 = 0 → ((z3 = 0 → A (fun r_48 u_49 => ((¬ r_48 = 0 → GTL A post e141 n90 u_49 z1 z2 z3 z4 (z5 + 1)) ∧ (r_48 = 0 → post 0 u_49))) ((va_up t0.1 6 z4), t0.2.1, t0.2.2.1, t0.2.2.2) (0 : Int32)) ∧ (¬ z3 = 0 → ((z2 ≤ z5 → A (fun r_52 u_53 => ((¬ r_52 = 0 → GTL A post e141 n90 u_53 z1 z2 z3 z4 (z5 + 1)) ∧ (r_52 = 0 → post 0 u_53))) ((va_up t0.1 6 z4), t0.2.1, t0.2.2.1, t0.2.2.2) (0 : Int32)) ∧ (¬ z2 ≤ z5 → A (fun r_55 u_56 => ((¬ r_55 = 0 → GTL A post e141 n90 u_56 z1 z2 z3 z4 (z5 + 1)) ∧ (r_55 = 0 → post 0 u_56))) ((va_up t0.1 6 z4), t0.2.1, t0.2.2.1, t0.2.2.2) (1 : Int32)))))) ∧ (¬ z5 = 0 → ((z2 ≤ z5 → e141 t0 z1 z2 z3 z4 z5) ∧ (¬ z2 ≤ z5 → ((z3 = 0 → e141 t0 z1 z2 z3 z4 z5) ∧ (¬ z3 = 0 → ((z3 = 0 → A (fun r_61 u_62 => ((¬ r_61 = 0 → GTL A post e141 n90 u_62 z1 z2 z3 z4 (z5 + 1)) ∧ (r_61 = 0 → post 0 u_62))) ((va_up t0.1 6 z4), t0.2.1, t0.2.2.1, t0.2.2.2) (0 : Int32)) ∧ (¬ z3 = 0 → ((z2 ≤ z5 → A (fun r_65 u_66 => ((¬ r_65 = 0 → GTL A post e141 n90 u_66 z1 z2 z3 z4 (z5 + 1)) ∧ (r_65 = 0 → post 0 u_66))) ((va_up t0.1 6 z4), t0.2.1, t0.2.2.1, t0.2.2.2) (0 : Int32)) ∧ (¬ z2 ≤ z5 → A (fun r_68 u_69 => ((¬ r_68 = 0 → GTL A post e141 n90 u_69 z1 z2 z3 z4 (z5 + 1)) ∧ (r_68 = 0 → post 0 u_69))) ((va_up t0.1 6 z4), t0.2.1, t0.2.2.1, t0.2.2.2) (1 : Int32)))))))))))
def GT (La Lb : ((Int32 → Md → Prop) → (Md → Int32 → Int32 → Int32 → Int32 → Int32 → Prop) → Nat → Md → Int32 → Int32 → Int32 → Int32 → Int32 → Prop)) (post : Int32 → Md → Prop) (s0 : Md) (x1 : Int32) : Prop := wp_X7_readsNumber (fun r_1 u_2 => ((¬ r_1 = 0 → wp_X7_nextByte (fun r_4 u_5 => ((¬ r_4 = 40 → wp_X7_mustByte (fun r_7 u_8 => ((¬ r_7 = 0 → wp_X7_isDone (fun r_10 u_11 => (∃ n90, La post (fun t0 z1 z2 z3 z4 z5 => wp_X7_mustByte (fun r_37 u_38 => ((¬ r_37 = 0 → post 1 ((va_up u_38.1 14 ((u_38.1 14) - 1)), u_38.2.1, u_38.2.2.1, u_38.2.2.2)) ∧ (r_37 = 0 → post 0 u_38))) t0 (41 : Int32)) n90 ((va_up u_11.1 14 ((u_11.1 14) + 1)), u_11.2.1, u_11.2.2.1, u_11.2.2.2) x1 (u_2.1 8) r_10 (u_11.1 6) 0)) u_8 x1) ∧ (r_7 = 0 → post 0 u_8))) u_5 (40 : Int32)) ∧ (r_4 = 40 → ((¬ (u_5.1 14) = 3 → wp_X7_mustByte (fun r_41 u_42 => ((¬ r_41 = 0 → wp_X7_isDone (fun r_44 u_45 => (∃ n90, Lb post (fun t0 z1 z2 z3 z4 z5 => wp_X7_mustByte (fun r_71 u_72 => ((¬ r_71 = 0 → post 1 ((va_up u_72.1 14 ((u_72.1 14) - 1)), u_72.2.1, u_72.2.2.1, u_72.2.2.2)) ∧ (r_71 = 0 → post 0 u_72))) t0 (41 : Int32)) n90 ((va_up u_45.1 14 ((u_45.1 14) + 1)), u_45.2.1, u_45.2.2.1, u_45.2.2.2) x1 (u_2.1 8) r_44 (u_45.1 6) 0)) u_42 x1) ∧ (r_41 = 0 → post 0 u_42))) u_5 (40 : Int32)) ∧ ((u_5.1 14) = 3 → wp_X7_fails (fun r_74 u_75 => narrow .boolean (.int r_74) = .int r_74 ∧ post r_74 u_75) u_5 (3 : Int32) (u_5.1 6)))))) u_2) ∧ (r_1 = 0 → post 0 u_2))) ((va_up s0.1 6 ((s0.1 6) + 5)), s0.2.1, s0.2.2.1, s0.2.2.2) (0 : Int32) (20 : Int32)
theorem go_o1 : @wp_X7_goesOne_1 = GO (GT wp_X7_goesTimes_1_L90 wp_X7_goesTimes_1_L90) := rfl
theorem go_l1 {p : Int32 → Md → Prop} {e f : Md → Int32 → Prop} : ∀ (n : Nat) (s : Md) (x : Int32), wp_X7_goesAll_1_L10 p e f n s x = GL wp_X7_goesOne_1 p e f n s x := by
  intro n
  induction n with
  | zero => intro s x; rfl
  | succ n ih =>
    intro s x
    unfold wp_X7_goesAll_1_L10 GL
    simp only [ih]
theorem go_a1 : @wp_X7_goesAll_1 = GA wp_X7_goesOne_1 := by
  funext p s x
  unfold wp_X7_goesAll_1 GA
  simp only [go_l1]
theorem go_o2 : @wp_X7_goesOne_2 = GO (GT wp_X7_goesTimes_2_L90 wp_X7_goesTimes_2_L90b) := rfl
theorem go_l2 {p : Int32 → Md → Prop} {e f : Md → Int32 → Prop} : ∀ (n : Nat) (s : Md) (x : Int32), wp_X7_goesAll_2_L10 p e f n s x = GL wp_X7_goesOne_2 p e f n s x := by
  intro n
  induction n with
  | zero => intro s x; rfl
  | succ n ih =>
    intro s x
    unfold wp_X7_goesAll_2_L10 GL
    simp only [ih]
theorem go_a2 : @wp_X7_goesAll_2 = GA wp_X7_goesOne_2 := by
  funext p s x
  unfold wp_X7_goesAll_2 GA
  simp only [go_l2]
theorem go_t2 {p : Int32 → Md → Prop} {e : Md → Int32 → Int32 → Int32 → Int32 → Int32 → Prop} : ∀ (n : Nat) (s : Md) (a b c d g : Int32), wp_X7_goesTimes_2_L90b p e n s a b c d g = GTL wp_X7_goesAll_1 p e n s a b c d g := by
  intro n
  induction n with
  | zero => intro s a b c d g; rfl
  | succ n ih =>
    intro s a b c d g
    unfold wp_X7_goesTimes_2_L90b GTL
    simp only [ih]
theorem go_o3 : @wp_X7_goesOne_3 = GO (GT wp_X7_goesTimes_3_L90 wp_X7_goesTimes_3_L90b) := rfl
theorem go_l3 {p : Int32 → Md → Prop} {e f : Md → Int32 → Prop} : ∀ (n : Nat) (s : Md) (x : Int32), wp_X7_goesAll_3_L10 p e f n s x = GL wp_X7_goesOne_3 p e f n s x := by
  intro n
  induction n with
  | zero => intro s x; rfl
  | succ n ih =>
    intro s x
    unfold wp_X7_goesAll_3_L10 GL
    simp only [ih]
theorem go_a3 : @wp_X7_goesAll_3 = GA wp_X7_goesOne_3 := by
  funext p s x
  unfold wp_X7_goesAll_3 GA
  simp only [go_l3]
theorem go_t3 {p : Int32 → Md → Prop} {e : Md → Int32 → Int32 → Int32 → Int32 → Int32 → Prop} : ∀ (n : Nat) (s : Md) (a b c d g : Int32), wp_X7_goesTimes_3_L90b p e n s a b c d g = GTL wp_X7_goesAll_2 p e n s a b c d g := by
  intro n
  induction n with
  | zero => intro s a b c d g; rfl
  | succ n ih =>
    intro s a b c d g
    unfold wp_X7_goesTimes_3_L90b GTL
    simp only [ih]
theorem go_o4 : @wp_X7_goesOne_4 = GO (GT wp_X7_goesTimes_4_L90 wp_X7_goesTimes_4_L90b) := rfl
theorem go_l4 {p : Int32 → Md → Prop} {e f : Md → Int32 → Prop} : ∀ (n : Nat) (s : Md) (x : Int32), wp_X7_goesAll_4_L10 p e f n s x = GL wp_X7_goesOne_4 p e f n s x := by
  intro n
  induction n with
  | zero => intro s x; rfl
  | succ n ih =>
    intro s x
    unfold wp_X7_goesAll_4_L10 GL
    simp only [ih]
theorem go_a4 : @wp_X7_goesAll_4 = GA wp_X7_goesOne_4 := by
  funext p s x
  unfold wp_X7_goesAll_4 GA
  simp only [go_l4]
theorem go_t4 {p : Int32 → Md → Prop} {e : Md → Int32 → Int32 → Int32 → Int32 → Int32 → Prop} : ∀ (n : Nat) (s : Md) (a b c d g : Int32), wp_X7_goesTimes_4_L90b p e n s a b c d g = GTL wp_X7_goesAll_3 p e n s a b c d g := by
  intro n
  induction n with
  | zero => intro s a b c d g; rfl
  | succ n ih =>
    intro s a b c d g
    unfold wp_X7_goesTimes_4_L90b GTL
    simp only [ih]
def LV : Nat → ((Int32 → Md → Prop) → Md → Int32 → Prop)
  | 1 => wp_X7_goesAll_1
  | 2 => wp_X7_goesAll_2
  | 3 => wp_X7_goesAll_3
  | 4 => wp_X7_goesAll_4
  | _ => fun _ _ _ => False
theorem LV_e {k : Nat} (h1 : 1 ≤ k) (h4 : k ≤ 4) : ∃ La Lb : ((Int32 → Md → Prop) → (Md → Int32 → Int32 → Int32 → Int32 → Int32 → Prop) → Nat → Md → Int32 → Int32 → Int32 → Int32 → Int32 → Prop), LV k = GA (GO (GT La Lb)) ∧ (2 ≤ k → Lb = GTL (LV (k - 1))) := by
  rcases (show k = 1 ∨ k = 2 ∨ k = 3 ∨ k = 4 by omega) with rfl | rfl | rfl | rfl
  · exact ⟨_, _, go_a1.trans (congrArg GA go_o1), fun h => by omega⟩
  · exact ⟨_, _, go_a2.trans (congrArg GA go_o2), fun _ => by funext p e n s a b c d g; exact go_t2 n s a b c d g⟩
  · exact ⟨_, _, go_a3.trans (congrArg GA go_o3), fun _ => by funext p e n s a b c d g; exact go_t3 n s a b c d g⟩
  · exact ⟨_, _, go_a4.trans (congrArg GA go_o4), fun _ => by funext p e n s a b c d g; exact go_t4 n s a b c d g⟩
