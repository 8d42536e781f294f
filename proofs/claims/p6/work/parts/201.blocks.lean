/-! Blocks: a world as a list of worlds; a permutation of blocks by their places. -/
theorem fl_perm {L L2 : List va_W} (h : List.Perm L L2) : List.Perm L.flatten L2.flatten := by
  induction h with
  | nil => exact List.Perm.refl _
  | cons x _ ih =>
    rw [List.flatten_cons, List.flatten_cons]
    exact ih.append_left x
  | swap x y l =>
    rw [List.flatten_cons, List.flatten_cons, List.flatten_cons, List.flatten_cons, ← List.append_assoc, ← List.append_assoc]
    exact (List.perm_append_comm).append_right _
  | trans _ _ ih1 ih2 => exact ih1.trans ih2
theorem bk_perm {L L2 : List va_W} (i : List Nat) (hi : List.Perm i (List.range L.length)) (h1 : (List.range L.length).filterMap (fun k => L[k]?) = L) (h2 : i.filterMap (fun k => L[k]?) = L2) : List.Perm L.flatten L2.flatten := by
  refine fl_perm ?_
  have h := hi.filterMap (fun k => L[k]?)
  rw [h1, h2] at h
  exact h.symm
theorem bk_app (L1 L2 : List va_W) : (L1 ++ L2).flatten = L1.flatten ++ L2.flatten := List.flatten_append
