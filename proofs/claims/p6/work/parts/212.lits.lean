theorem li_m8 : (-8 : Int32).toInt = -8 := rfl
theorem li_m2 : (-2 : Int32).toInt = -2 := rfl
theorem li_m1 : (-1 : Int32).toInt = -1 := rfl
theorem li_0 : (0 : Int32).toInt = 0 := rfl
theorem li_1 : (1 : Int32).toInt = 1 := rfl
theorem li_2 : (2 : Int32).toInt = 2 := rfl
theorem li_3 : (3 : Int32).toInt = 3 := rfl
theorem li_4 : (4 : Int32).toInt = 4 := rfl
theorem li_5 : (5 : Int32).toInt = 5 := rfl
theorem li_6 : (6 : Int32).toInt = 6 := rfl
theorem li_7 : (7 : Int32).toInt = 7 := rfl
theorem li_8 : (8 : Int32).toInt = 8 := rfl
theorem li_9 : (9 : Int32).toInt = 9 := rfl
theorem li_10 : (10 : Int32).toInt = 10 := rfl
theorem li_11 : (11 : Int32).toInt = 11 := rfl
theorem li_12 : (12 : Int32).toInt = 12 := rfl
theorem li_20 : (20 : Int32).toInt = 20 := rfl
theorem li_24 : (24 : Int32).toInt = 24 := rfl
theorem li_32 : (32 : Int32).toInt = 32 := rfl
theorem li_39 : (39 : Int32).toInt = 39 := rfl
theorem li_40 : (40 : Int32).toInt = 40 := rfl
theorem li_41 : (41 : Int32).toInt = 41 := rfl
theorem li_42 : (42 : Int32).toInt = 42 := rfl
theorem li_47 : (47 : Int32).toInt = 47 := rfl
theorem li_48 : (48 : Int32).toInt = 48 := rfl
theorem li_57 : (57 : Int32).toInt = 57 := rfl
theorem li_59 : (59 : Int32).toInt = 59 := rfl
theorem li_64 : (64 : Int32).toInt = 64 := rfl
theorem li_80 : (80 : Int32).toInt = 80 := rfl
theorem li_97 : (97 : Int32).toInt = 97 := rfl
theorem li_99 : (99 : Int32).toInt = 99 := rfl
theorem li_122 : (122 : Int32).toInt = 122 := rfl
theorem li_126 : (126 : Int32).toInt = 126 := rfl
theorem li_127 : (127 : Int32).toInt = 127 := rfl
theorem li_200 : (200 : Int32).toInt = 200 := rfl
theorem li_380 : (380 : Int32).toInt = 380 := rfl
theorem li_400 : (400 : Int32).toInt = 400 := rfl
theorem li_496 : (496 : Int32).toInt = 496 := rfl
theorem li_6896 : (6896 : Int32).toInt = 6896 := rfl
theorem li_9999 : (9999 : Int32).toInt = 9999 := rfl
theorem li_10000 : (10000 : Int32).toInt = 10000 := rfl
theorem lj_0 : (0 : Int64).toInt = 0 := rfl
theorem lj_1 : (1 : Int64).toInt = 1 := rfl
theorem lj_2 : (2 : Int64).toInt = 2 := rfl
theorem lj_3 : (3 : Int64).toInt = 3 := rfl
theorem lj_4 : (4 : Int64).toInt = 4 := rfl
theorem lj_5 : (5 : Int64).toInt = 5 := rfl
theorem lj_9 : (9 : Int64).toInt = 9 := rfl
theorem lj_32 : (32 : Int64).toInt = 32 := rfl
theorem lj_48 : (48 : Int64).toInt = 48 := rfl
theorem lj_57 : (57 : Int64).toInt = 57 := rfl
theorem lj_99 : (99 : Int64).toInt = 99 := rfl
theorem lj_126 : (126 : Int64).toInt = 126 := rfl
def bi (R W : Int) (s : Bd) : Prop := (s.1 0).toInt = R ∧ (s.1 1).toInt = W ∧ (0 ≤ (s.1 3).toInt ∧ (s.1 3).toInt ≤ 4) ∧ (0 ≤ R ∧ R ≤ 6 ∧ 0 ≤ W ∧ W ≤ 10 ∧ 0 ≤ R * W ∧ R * W ≤ 40) ∧ ar 4 (0) (40) (s.2.1 1) ∧ ar 40 (0) (3) (s.2.1 3) ∧ ar 40 (0) (39) (s.2.1 4) ∧ ar 40 (0) (39) (s.2.1 5) ∧ ar 40 (0) (39) (s.2.1 6) ∧ s.2.2.2.1 ≤ 6400
def ob (o : Option Bd) : Prop := ∀ B, o = some B → ∃ R W, bi R W B
def tz (N : Int) (s : Tp) : Prop := (s.1 0).toInt = N ∧ (0 ≤ N ∧ N ≤ 400)
def tj (N : Int) (s : Tp) : Prop := (s.1 0).toInt = N ∧ (0 ≤ (s.1 1).toInt ∧ (s.1 1).toInt ≤ N ∧ 0 ≤ (s.1 2).toInt ∧ (s.1 2).toInt ≤ (s.1 1).toInt ∧ 0 ≤ (s.1 5).toInt ∧ (s.1 5).toInt ≤ 5000) ∧ (0 ≤ N ∧ N ≤ 400)
def tk (N : Int) (s : Tp) : Prop := (s.1 0).toInt = N ∧ (0 ≤ (s.1 1).toInt ∧ (s.1 1).toInt ≤ N + 1 ∧ 0 ≤ (s.1 2).toInt ∧ (s.1 2).toInt ≤ (s.1 1).toInt ∧ ((s.1 5).toInt ≠ 0 ∨ (s.1 1).toInt ≤ N) ∧ 0 ≤ (s.1 5).toInt ∧ (s.1 5).toInt ≤ 5000) ∧ (0 ≤ N ∧ N ≤ 400)
def mo (s : Mo) : Prop := (0 ≤ (s.1 0).toInt ∧ (s.1 0).toInt ≤ 40) ∧ ar 40 (-1) (39) (s.2 0) ∧ ar 40 (-1) (39) (s.2 1) ∧ ar 40 (0) (39) (s.2 2)
def pg (R : Int) (s : Pg) : Prop := (0 ≤ (s.1 0).toInt ∧ (s.1 0).toInt ≤ 3 ∧ 0 ≤ (s.1 1).toInt ∧ (s.1 1).toInt ≤ 80) ∧ ar 80 (0) (99) (s.2 1) ∧ (∀ k : Nat, (k : Int) < (s.1 1).toInt → (s.2 0 k).toInt = 6 ∨ (s.2 0 k).toInt = 9 → (s.2 1 k).toInt < R)
def pz (s : Pg) : Prop := (0 ≤ (s.1 0).toInt ∧ (s.1 0).toInt ≤ 3 ∧ 0 ≤ (s.1 1).toInt ∧ (s.1 1).toInt ≤ 80) ∧ ar 80 (0) (99) (s.2 1)
def pa (s : Pa) : Prop := (0 ≤ (s.1 0).toInt ∧ (s.1 0).toInt ≤ 10 ∧ 0 ≤ (s.1 1).toInt ∧ (s.1 1).toInt ≤ 9) ∧ (∀ k : Nat, ob (s.2 k))
theorem bi_c {R W : Int} {s : Bd} (h : bi R W s) : ((s.1 0) * (s.1 1)).toInt = R * W := by
  have e := tq_mul (s.1 0) (s.1 1)
  rw [h.1, h.2.1] at e
  have p := h.2.2.2.1
  omega
