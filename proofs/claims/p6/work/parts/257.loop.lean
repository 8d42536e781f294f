set_option maxHeartbeats 4000000 in
set_option maxRecDepth 100000 in
theorem lp_go {p : Program} {e : Env} {s : State} {m : MethodId} {below : List Frame} {meth : Method} {c : Code} {l : Launch} {b0 L : Nat} {xs : Nat → Int32} (C0 : lw_At p s m meth c b0 L xs) (hL : L ≤ 3072) {D : va_G} {q : Nat → ClassId} (hQ : kn D q s) (hV : sv q (fun x : Nat => s.heap.size ≤ x) s s.heap) {a b : Nat} : ∀ (n k : Nat), n + k = 513 → ∀ (N : Int) (s1 : Tp) (s2 s3 : Bd) (s4 : Mo) (s5 : Pg) (s6 : Pa) (z7 : Nat → Option Bd) (md : Md) (wC wM : va_W) (H : Heap) (locs : List Loc) (ls : Array Slot), c_W q a s1 s2 s3 s4 s5 s6 z7 wC → m_W q b md wM → JJ N s1 s2 s3 s4 s5 s6 z7 md → va_P D vwCl (wC ++ wM) H → va_D (fun x : Nat => s.heap.size ≤ x) (wC ++ wM) → va_S (fun x : Nat => s.heap.size ≤ x) s.heap H locs → lv_has ls 4 [(3, .int (nI (6 * k))), (2, .ref b), (1, .ref a), (0, .ref b0)] → W p l e room_1 s m #[Value.ref b0] below meth c H locs (52 + 15 * k) (98998 + 13306 * k) (lw_Z below #[Value.ref b0] s) (F0 m 18 ls []) := by
  obtain ⟨hx, hb, hr, hml, hown, hts, hX, hbl, hlocks, hgv⟩ := id C0
  have ht : ∀ w ∈ w_all, w.before #[Value.ref b0] s = true := fun w h => hts w (w_tbl h)
  have hA : ∀ x : Nat, s.heap.size ≤ x → (fun x : Nat => s.heap.size ≤ x) x := fun _ h => h
  have hbA : ¬ (fun x : Nat => s.heap.size ≤ x) b0 := Nat.not_le.mpr hbl
  have hown : s.vm.findClass RL = some m.cls := hown
  intro n
  induction n with
  | zero =>
    intro k hn N s1 s2 s3 s4 s5 s6 z7 md wC wM H locs ls hC hM hJ hP hD hS hl
    exact lp_out C0 hL (by omega) (by omega) hS hl
  | succ n ih =>
    intro k hn N s1 s2 s3 s4 s5 s6 z7 md wC wM H locs ls hC hM hJ hP hD hS hl
    by_cases hk : 6 * k + 6 ≤ L
    · refine lp_step C0 hL hk hQ hV hC hM hJ hP hD hS hl (fun N2 t1 t2 t3 t4 t5 t6 t7 m2 wC2 wM2 H locs hC hM hJ hP hD hS => ?_)
      refine lv_iinc (v := nI (6 * (k + 1))) (lv' := [(3, .int (nI (6 * (k + 1)))), (2, .ref b), (1, .ref a), (0, .ref b0)]) hx hb dL_law_1334 hl (k := 0) rfl (nI_plus (6 * k) 6) (by decide) rfl (fun ls hl => ?_)
      refine lv_goto (tgt := 18) hx hb dL_law_1337 (by decide) ?_
      exact ih (k + 1) (by omega) N2 t1 t2 t3 t4 t5 t6 t7 m2 wC2 wM2 H locs ls hC hM hJ hP hD hS hl
    · exact lp_out C0 hL hk (by omega) hS hl
