/-! drum: counts of signs. -/
def cg (g : Nat → Int32) (s : Int32) : Nat → Nat → Nat
  | _, 0 => 0
  | a, n + 1 => (if g a = s then 1 else 0) + cg g s (a + 1) n
def sm (p : Nat → Nat) : Nat → Nat → Nat
  | _, 0 => 0
  | a, n + 1 => p a + sm p (a + 1) n
def mx (p : Nat → Nat) : Nat → Nat → Nat
  | _, 0 => 0
  | a, n + 1 => max (p a) (mx p (a + 1) n)
/-- the sign of a flap of a drum -/
def gs (f : Nat → Int64) (d k : Nat) : Int32 := Int64.toInt32 (f (8 + 42 * d + 2 + k))
/-! the reference -/
def u7 (g : Nat → Int32) (N i : Nat) : Nat := if cg g (nI i) 0 N = 0 then 0 else 1
def m7 (g : Nat → Int32) (N i : Nat) : Nat := cg g (nI i) 0 N
