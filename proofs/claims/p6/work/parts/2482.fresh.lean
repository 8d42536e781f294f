def zT : Tp := (fun _ => 0, fun _ => 0)
def zO : Mo := (fun _ => 0, fun _ _ => 0)
def zG : Pg := (fun _ => 0, fun _ _ => 0)
def zA : Pa := (fun _ => 0, fun _ => none)
def zS : Nat → Option Bd := fun _ => none
def zM : Md := (fun _ => 0, 0, fun _ _ => 0, fun _ _ => 0)
theorem fresh_cW (a : Nat → Nat) (q : Nat → ClassId) : c_W q (a 0) zT fr_B fr_B zO zG zA zS (fb_w a q) := ⟨a, fun k => a (1 + k), fun k => a (3 + k), fun k => a (16 + k), fun k => a (29 + k), fun k => a (33 + k), a 41, a 43, a 42, fun _ _ => 0, fun _ _ => 0, rfl, rfl⟩
theorem fresh_mW (b : Nat → Nat) (q : Nat → ClassId) : ∃ w, m_W q (b 0) zM w ∧ List.Perm (md_w b q) w := by
  refine ⟨md_v (fun k => if k = 4 then b 5 else if k = 5 then b 4 else b k) q zM, ⟨(fun k => if k = 4 then b 5 else if k = 5 then b 4 else b k), rfl, rfl⟩, ?_⟩
  exact List.Perm.cons _ (List.Perm.cons _ (List.Perm.cons _ (List.Perm.cons _ (List.Perm.swap _ _ _))))
theorem fresh_ok : cs_ok 0 zT fr_B fr_B zO zG zA zS := by
  have e : (0 : Int32).toInt = 0 := rfl
  refine ⟨⟨e, by omega⟩, ⟨0, 0, fr_bi⟩, ⟨0, 0, fr_bi⟩, ⟨?_, fr_ar (by omega) (by omega), fr_ar (by omega) (by omega), fr_ar (by omega) (by omega)⟩, ⟨?_, fr_ar (by omega) (by omega)⟩, ⟨?_, fun k B h => by cases h⟩, fun k B h => by cases h⟩
  · show 0 ≤ (0 : Int32).toInt ∧ (0 : Int32).toInt ≤ 40
    omega
  · show 0 ≤ (0 : Int32).toInt ∧ (0 : Int32).toInt ≤ 3 ∧ 0 ≤ (0 : Int32).toInt ∧ (0 : Int32).toInt ≤ 80
    omega
  · show 0 ≤ (0 : Int32).toInt ∧ (0 : Int32).toInt ≤ 10 ∧ 0 ≤ (0 : Int32).toInt ∧ (0 : Int32).toInt ≤ 9
    omega
theorem fresh_mb : mb 0 0 0 0 zM := by
  have e : (0 : Int32).toInt = 0 := rfl
  have z : rw_ok 0 0 0 (fun _ => (0 : Int64)) := rw_zero (fun _ _ => rfl)
  refine ⟨e, ?_, by omega, by omega, z, fun k hk => ?_, fun k _ hk => absurd rfl hk, ⟨0, 0, 0, z, Or.inl (by omega)⟩⟩
  · show 0 ≤ (0 : Int32).toInt ∧ (0 : Int32).toInt ≤ 10
    omega
  · have : (k : Int) < (0 : Int32).toInt := hk
    omega
theorem fresh_J : JJ 0 zT fr_B fr_B zO zG zA zS zM := by
  refine ⟨fresh_ok, ⟨0, 0, 0, fresh_mb, Or.inl (by omega)⟩, ⟨rfl, funext (fun k => ?_), ?_, ?_, fun k => ?_⟩, ?_, ⟨rfl, fun j hj => ?_⟩, fun k hk => Or.inl ⟨rfl, rfl⟩⟩
  · show (0 : Int32) = (0 : Int32) &&& 255
    decide
  · show (0 : Int) ≤ (0 : Int32).toInt
    decide
  · show (0 : Int32).toInt ≤ (400 : Int)
    decide
  · show (-128 : Int) ≤ (0 : Int32).toInt ∧ (0 : Int32).toInt ≤ (127 : Int)
    decide
  · refine ⟨⟨rfl, rfl, rfl, rfl⟩, ⟨?_, fun d hd => ?_⟩, fun c hc => ?_⟩
    · exact ⟨(by show (0 : Int64).toInt ≤ 4; decide), Or.inl (by show (0 : Int64).toInt ≤ 0; decide)⟩
    · exfalso
      have hd : (d : Int) < (0 : Int64).toInt := hd
      have e : (0 : Int64).toInt = 0 := rfl
      omega
    · exfalso
      have hc : (c : Int) < (0 : Int64).toInt * (0 : Int64).toInt := hc
      have e : (0 : Int64).toInt = 0 := rfl
      rw [e] at hc
      omega
  · exfalso
    have hj : (j : Int) < (0 : Int32).toInt := hj
    have e : (0 : Int32).toInt = 0 := rfl
    omega
