/-! drum: counts of signs. -/
def cg (g : Nat → Int32) (s : Int32) : Nat → Nat → Nat
  | _, 0 => 0
  | a, n + 1 => (if g a = s then 1 else 0) + cg g s (a + 1) n
def sm (p : Nat → Nat) : Nat → Nat → Nat
  | _, 0 => 0
  | a, n + 1 => p a + sm p (a + 1) n
def mx (p : Nat → Nat) : Nat → Nat → Nat
  | _, 0 => 0
  | a, n + 1 => max (p a) (mx p (a + 1) n)
/-- the sign of a flap of a drum -/
def gs (f : Nat → Int64) (d k : Nat) : Int32 := Int64.toInt32 (f (8 + 42 * d + 2 + k))
theorem gs_b {f : Nat → Int64} {d k : Nat} (h : DG f d) (hk : (k : Int) < d_f f d) : 32 ≤ (gs f d k).toInt ∧ (gs f d k).toInt ≤ 126 := by
  have q := h.2.2.2 k hk
  unfold gs
  rw [t32 (by omega)]
  exact q
/-- a drum of the class beside the row's -/
def DX (s : Bd) (f : Nat → Int64) (d : Nat) : Prop := d < 4 ∧ (d : Int) < (s.1 3).toInt ∧ (s.2.1 1 d).toInt = d_f f d ∧ (2 ≤ d_f f d ∧ d_f f d ≤ 40) ∧ DG f d ∧ (∀ k : Nat, (k : Int) < d_f f d → s.2.1 2 (40 * d + k) = gs f d k) ∧ s.2.1 0 d = Int64.toInt32 (f (8 + 42 * d))
theorem DX_of {s : Bd} {f : Nat → Int64} {R W D : Int} {d : Nat} (hf : rw_ok R W D f) (hB : RB s f) (hd : (d : Int) < D) : DX s f d := by
  have hR := hf.2.2.2.2.2.1
  have rc := RB_cells hf hB
  have k := RB_fl hf hB hd
  obtain ⟨b4, b5, b6, b7⟩ := hB.2.1.2 d (by rw [hf.2.2.1]; exact hd)
  exact ⟨by omega, by omega, k.1, k.2, b4, b7, b5⟩
theorem e0_sgD {P : Int32 → Prop} {s : Bd} {f : Nat → Int64} {x y : Int32} {d : Nat} (hX : DX s f d) (hx : x.toInt = (d : Int)) (hy : 0 ≤ y.toInt ∧ y.toInt < d_f f d) (h : wp_X0_signOf P s x y) : P (gs f d y.toInt.toNat) := by
  obtain ⟨x1, x2, x3, x4, x5, x6, x7⟩ := hX
  have e0 : (0 : Int32).toInt = 0 := rfl
  have e : x.toInt.toNat = d := by omega
  unfold wp_X0_signOf at h
  have h := h.2 (fun c => by have := q_lt c; omega)
  have h := h.2 (fun c => by have := q_le c; omega)
  have h := (h.2 (fun c => by have := q_lt c; omega)).2
  rw [tn_i, e] at h
  have h := (h.1 (Int32.lt_iff_toInt_lt.mpr (by omega))).2
  rw [ix40 (by omega) (by omega) (by omega) (by omega), e, x6 _ (by omega)] at h
  exact h
/-! the reference -/
def u7 (g : Nat → Int32) (N i : Nat) : Nat := if cg g (nI i) 0 N = 0 then 0 else 1
def m7 (g : Nat → Int32) (N i : Nat) : Nat := cg g (nI i) 0 N
