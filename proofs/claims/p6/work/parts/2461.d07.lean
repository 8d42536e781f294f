set_option maxHeartbeats 4000000 in
theorem dt_X6_keep (s2 : Bd) (z7 : Nat → Option Bd) (x1 : Int32) : dt (fun P : (Int32 × (Nat → Option Bd)) → Prop => wp_X6_keep (fun a0 a1 => P (a0, a1)) s2 z7 x1) (fun P : (Int32 × (Nat → Option Bd)) → Prop => wp_X6_keep (fun a0 a1 => P (a0, a1)) s2 z7 x1) := by
  unfold wp_X6_keep
  refine dt_b1 (F := fun k => wp_X6_isShelf k x1) (dt_X6_isShelf x1) (fun r_1 => dt_n (dt_c ?_) (dt_r _))
  cases z7 (Int32.toNatClampNeg x1) with
  | none => exact dt_b1 (F := fun k => wp_X0_copyAll k fr_B s2) (dt_X0_copyAll fr_B s2) (fun _ => dt_b1 (F := fun k => wp_X0_cells k s2) (dt_X0_cells s2) (fun _ => dt_r _))
  | some S5 => exact dt_b1 (F := fun k => wp_X0_copyAll k S5 s2) (dt_X0_copyAll S5 s2) (fun _ => dt_b1 (F := fun k => wp_X0_cells k s2) (dt_X0_cells s2) (fun _ => dt_r _))
set_option maxHeartbeats 4000000 in
theorem dt_X6_back (s2 : Bd) (s6 : Pa) (z7 : Nat → Option Bd) (x1 : Int32) : dt (fun P : (Int32 × Bd × Pa × (Nat → Option Bd)) → Prop => wp_X6_back (fun a0 a1 a2 a3 => P (a0, a1, a2, a3)) s2 s6 z7 x1) (fun P : (Int32 × Bd × Pa × (Nat → Option Bd)) → Prop => wp_X6_back (fun a0 a1 a2 a3 => P (a0, a1, a2, a3)) s2 s6 z7 x1) := by
  unfold wp_X6_back
  refine dt_b1 (F := fun k => wp_X6_isShelf k x1) (dt_X6_isShelf x1) (fun r_1 => dt_n (dt_c ?_) (dt_r _))
  cases z7 (Int32.toNatClampNeg x1) with
  | none => exact dt_r _
  | some S5 => exact dt_b1 (F := fun k => wp_X0_copyAll k s2 S5) (dt_X0_copyAll s2 S5) (fun S9 => dt_b1 (F := fun k => wp_X0_cells k S9) (dt_X0_cells S9) (fun _ => dt_r _))
set_option maxHeartbeats 4000000 in
theorem dt_X6_tell (s1 : Tp) (s2 : Bd) (s3 : Bd) (s6 : Pa) : dt (fun P : (Int32 × Tp × Bd × Bd × Pa) → Prop => wp_X6_tell (fun a0 a1 a2 a3 a4 => P (a0, a1, a2, a3, a4)) s1 s2 s3 s6) (fun P : (Int32 × Tp × Bd × Bd × Pa) → Prop => wp_X6_tell (fun a0 a1 a2 a3 a4 => P (a0, a1, a2, a3, a4)) s1 s2 s3 s6) := by
  unfold wp_X6_tell
  exact (dt_b2 (F := fun k => wp_X1_readInto k s3 s1) (dt_X1_readInto s3 s1) (fun u_2a u_2b => (dt_b1 (F := fun k => wp_X5_isSound k ((va_up u_2b.1 0 0), u_2b.2)) (dt_X5_isSound ((va_up u_2b.1 0 0), u_2b.2)) (fun r_3 => (dt_n (dt_b1 (F := fun k => wp_X0_copyAllButLog k s2 u_2a) (dt_X0_copyAllButLog s2 u_2a) (fun u_7 => (dt_b1 (F := fun k => wp_X0_emptyLog k u_7) (dt_X0_emptyLog u_7) (fun b_10 => (dt_r _))))) (dt_r _))))))
set_option maxHeartbeats 4000000 in
theorem dt_X6_shelvesUsed (z7 : Nat → Option Bd) : dt (fun P : Int32 → Prop => wp_X6_shelvesUsed (fun a0 => P a0) z7) (fun P : Int32 → Prop => wp_X6_shelvesUsed (fun a0 => P a0) z7) := by
  unfold wp_X6_shelvesUsed
  cases z7 (Int32.toNatClampNeg 0) with
  | none =>
    cases z7 (Int32.toNatClampNeg 1) with
    | none => exact dt_r _
    | some S => exact dt_r _
  | some S =>
    cases z7 (Int32.toNatClampNeg 1) with
    | none => exact dt_r _
    | some S => exact dt_r _
set_option maxHeartbeats 4000000 in
theorem dt_X6_count (s1 : Tp) (s2 : Bd) (s4 : Mo) (s6 : Pa) (z7 : Nat → Option Bd) (x1 : Int32) : dt (fun P : (Int32 × Mo × Pa) → Prop => wp_X6_count (fun a0 a1 a2 => P (a0, a1, a2)) s1 s2 s4 s6 z7 x1) (fun P : (Int32 × Mo × Pa) → Prop => wp_X6_count (fun a0 a1 a2 => P (a0, a1, a2)) s1 s2 s4 s6 z7 x1) := by
  unfold wp_X6_count
  exact (dt_p (dt_r _) (dt_p (dt_r _) (dt_p (dt_b1 (F := fun k => wp_X0_cells k s2) (dt_X0_cells s2) (fun r_4 => (dt_r _))) (dt_p (dt_r _) (dt_p (dt_r _) (dt_p (dt_r _) (dt_p (dt_r _) (dt_p (dt_b1 (F := fun k => wp_X6_shelvesUsed k z7) (dt_X6_shelvesUsed z7) (fun r_11 => (dt_r _))) (dt_p (dt_b1 (F := fun k => wp_X2_choose k s4 s2) (dt_X2_choose s4 s2) (fun u_14 => (dt_r _))) (dt_r _))))))))))
