/-! Worlds by their members: order counts for nothing. The boards that the past and the shelves hold. -/
theorem vp_iff {D : va_G} {cl : List vw_C} {ws : va_W} {H : Heap} : va_P D cl ws H ↔ ∀ x ∈ ws, va_at D cl x H := by
  constructor
  · intro h x hx
    obtain ⟨k, hk⟩ := List.getElem?_of_mem hx
    exact h k x hk
  · intro h k x hk
    exact h x (List.mem_of_getElem? hk)
theorem vp_perm {D : va_G} {cl : List vw_C} {ws ws2 : va_W} {H : Heap} (hp : List.Perm ws ws2) (h : va_P D cl ws H) : va_P D cl ws2 H := vp_iff.mpr (fun x hx => vp_iff.mp h x (hp.mem_iff.mpr hx))
theorem vd_iff {A : Nat → Prop} {ws : va_W} : va_D A ws ↔ (ws.map Prod.fst).Nodup ∧ ∀ x ∈ ws, A x.1 := by
  constructor
  · intro h
    refine ⟨List.pairwise_iff_getElem.mpr (fun i j hi hj hij e => ?_), fun x hx => ?_⟩
    · have hi2 : i < ws.length := by simpa using hi
      have hj2 : j < ws.length := by simpa using hj
      have := h.1 i j ws[i] ws[j] (List.getElem?_eq_getElem hi2) (List.getElem?_eq_getElem hj2) (by simpa using e)
      omega
    · obtain ⟨k, hk⟩ := List.getElem?_of_mem hx
      exact h.2 k x hk
  · intro h
    refine ⟨fun i j x y hi hj e => ?_, fun k x hk => h.2 x (List.mem_of_getElem? hk)⟩
    have h1 := List.pairwise_iff_getElem.mp h.1
    obtain ⟨li, ei⟩ := List.getElem?_eq_some_iff.mp hi
    obtain ⟨lj, ej⟩ := List.getElem?_eq_some_iff.mp hj
    rcases Nat.lt_trichotomy i j with hlt | heq | hgt
    · have h2 := h1 i j (by simpa using li) (by simpa using lj) hlt
      simp only [List.getElem_map, ei, ej] at h2
      exact absurd e h2
    · exact heq
    · have h2 := h1 j i (by simpa using lj) (by simpa using li) hgt
      simp only [List.getElem_map, ei, ej] at h2
      exact absurd e.symm h2
theorem vd_perm {A : Nat → Prop} {ws ws2 : va_W} (hp : List.Perm ws ws2) (h : va_D A ws) : va_D A ws2 := by
  have h1 := vd_iff.mp h
  exact vd_iff.mpr ⟨(hp.map Prod.fst).nodup_iff.mp h1.1, fun x hx => h1.2 x (hp.mem_iff.mpr hx)⟩
theorem vA_iff {ws : va_W} {sz x : Nat} : va_A ws sz x ↔ (∃ e, (x, e) ∈ ws) ∨ sz ≤ x := by
  constructor
  · rintro (⟨k, e, h⟩ | h)
    · exact Or.inl ⟨e, List.mem_of_getElem? h⟩
    · exact Or.inr h
  · rintro (⟨e, h⟩ | h)
    · obtain ⟨k, hk⟩ := List.getElem?_of_mem h
      exact Or.inl ⟨k, e, hk⟩
    · exact Or.inr h
def sl_w (q : Nat → ClassId) (a : Nat → Nat) (o : Option Bd) : va_W := match o with
  | none => []
  | some s => bd_w a q s
def ps_w (q : Nat → ClassId) (n : Nat) (A : Nat → Nat → Nat) (P : Nat → Option Bd) : va_W := (List.range n).flatMap (fun k => sl_w q (A k) (P k))
theorem ps_congr {q : Nat → ClassId} {n : Nat} {A B : Nat → Nat → Nat} {P Q : Nat → Option Bd} (h : ∀ k, k < n → sl_w q (A k) (P k) = sl_w q (B k) (Q k)) : ps_w q n A P = ps_w q n B Q := by
  unfold ps_w
  induction n with
  | zero => rfl
  | succ n ih =>
    rw [List.range_succ, List.flatMap_append, List.flatMap_append, ih (fun k hk => h k (by omega))]
    simp only [List.flatMap_cons, List.flatMap_nil, List.append_nil]
    rw [h n (by omega)]
/-- one slot, and the rest -/
theorem ps_perm {q : Nat → ClassId} {n k : Nat} {A : Nat → Nat → Nat} {P : Nat → Option Bd} (hk : k < n) : List.Perm (ps_w q n A P) (sl_w q (A k) (P k) ++ ps_w q n A (va_up P k none)) := by
  induction n with
  | zero => omega
  | succ n ih =>
    have e1 : ∀ (R : Nat → Option Bd), ps_w q (n + 1) A R = ps_w q n A R ++ sl_w q (A n) (R n) := by
      intro R
      unfold ps_w
      rw [List.range_succ, List.flatMap_append]
      simp only [List.flatMap_cons, List.flatMap_nil, List.append_nil]
    rw [e1 P, e1 (va_up P k none)]
    by_cases h : k = n
    · subst h
      have e2 : ps_w q k A (va_up P k none) = ps_w q k A P := ps_congr (fun j hj => by
        have : va_up P k none j = P j := by simp [va_up, show ¬ j = k by omega]
        rw [this])
      have e3 : va_up P k none k = none := by simp [va_up]
      rw [e2, e3]
      show List.Perm (ps_w q k A P ++ sl_w q (A k) (P k)) (sl_w q (A k) (P k) ++ (ps_w q k A P ++ []))
      rw [List.append_nil]
      exact List.perm_append_comm
    · have e3 : va_up P k none n = P n := by simp [va_up, show ¬ n = k by omega]
      rw [e3, ← List.append_assoc]
      exact (ih (by omega)).append_right _
/-- a slot filled anew: the rest is as it was -/
theorem ps_fill {q : Nat → ClassId} {n k : Nat} {A : Nat → Nat → Nat} {P : Nat → Option Bd} {a : Nat → Nat} {s : Bd} (hk : k < n) : List.Perm (bd_w a q s ++ ps_w q n A (va_up P k none)) (ps_w q n (va_up A k a) (va_up P k (some s))) := by
  refine List.Perm.symm ?_
  have h := ps_perm (q := q) (n := n) (k := k) (A := va_up A k a) (P := va_up P k (some s)) hk
  have e1 : sl_w q (va_up A k a k) (va_up P k (some s) k) = bd_w a q s := by simp [va_up, sl_w]
  have e2 : ps_w q n (va_up A k a) (va_up (va_up P k (some s)) k none) = ps_w q n A (va_up P k none) := ps_congr (fun j hj => by
    by_cases h : j = k
    · simp [va_up, h, sl_w]
    · simp [va_up, h])
  rw [e1, e2] at h
  exact h
/-- what a row of boards holds: addresses where there are boards -/
def pf_f (A : Nat → Nat → Nat) (P : Nat → Option Bd) : Nat → Option Nat := fun k => (P k).map (fun _ => A k 0)
theorem pf_up {A : Nat → Nat → Nat} {P : Nat → Option Bd} {k : Nat} {a : Nat → Nat} {s : Bd} : va_up (pf_f A P) k (some (a 0)) = pf_f (va_up A k a) (va_up P k (some s)) := by
  funext j
  by_cases h : j = k
  · simp [va_up, pf_f, h]
  · simp [va_up, pf_f, h]
