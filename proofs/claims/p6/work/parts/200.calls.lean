/-! A call whose world is some of our blocks, in any order: by members. -/
theorem jn_perm {A : Nat → Prop} {D : va_G} {cl : List vw_C} {ws wc wr w1 : va_W} {H H1 : Heap} (hp : List.Perm ws (wc ++ wr)) (hP : va_P D cl ws H) (hD : va_D A ws) (hk : ∀ x : Nat, x < H.size → ¬ va_A wc H.size x → H1[x]? = H[x]?) (hF : ∀ x, va_A wc H.size x → A x) (hP1 : va_P D cl w1 H1) (hD1 : va_D (va_A wc H.size) w1) : va_P D cl (w1 ++ wr) H1 ∧ va_D A (w1 ++ wr) := by
  have hP2 := vp_iff.mp (vp_perm hp hP)
  have hD2 := vd_iff.mp (vd_perm hp hD)
  have hn := hD2.1
  rw [List.map_append, List.nodup_append] at hn
  have apart : ∀ x ∈ wr, x.1 < H.size ∧ ¬ va_A wc H.size x.1 := by
    intro x hx
    have hl := (hP2 x (List.mem_append_right _ hx)).lt
    refine ⟨hl, fun h => ?_⟩
    rcases vA_iff.mp h with ⟨e, he⟩ | h
    · exact hn.2.2 x.1 (List.mem_map.mpr ⟨(x.1, e), he, rfl⟩) x.1 (List.mem_map.mpr ⟨x, hx, rfl⟩) rfl
    · omega
  have h1 := vd_iff.mp hD1
  refine ⟨vp_iff.mpr (fun x hx => ?_), vd_iff.mpr ⟨?_, fun x hx => ?_⟩⟩
  · rcases List.mem_append.mp hx with h | h
    · exact vp_iff.mp hP1 x h
    · obtain ⟨g1, g2⟩ := apart x h
      exact (hP2 x (List.mem_append_right _ h)).kept (hk x.1 g1 g2)
  · rw [List.map_append, List.nodup_append]
    refine ⟨h1.1, hn.2.1, ?_⟩
    intro a ha b hb e
    obtain ⟨x, hx, rfl⟩ := List.mem_map.mp ha
    obtain ⟨y, hy, rfl⟩ := List.mem_map.mp hb
    exact (apart y hy).2 (e ▸ h1.2 x hx)
  · rcases List.mem_append.mp hx with h | h
    · exact hF x.1 (h1.2 x h)
    · exact hD2.2 x (List.mem_append_right _ h)
section RC
variable {p : Program} {l : Launch} {e : Env} {R : Room} {s : State} {m : MethodId} {args : Array Value} {below : List Frame} {meth : Method} {c : Code} {H : Heap} {locs : List Loc} {cells slots : Nat} {Q : State → Prop}
variable {pc : Nat} {ls : Array Slot} {rest st : List Value} {D : va_G} {ws wc wr : va_W} {A : Nat → Prop} {H0 : Heap}
theorem fr_R (hp : List.Perm ws (wc ++ wr)) (hD : va_D A ws) (hS : va_S A H0 H locs) (hA : ∀ x : Nat, H0.size ≤ x → A x) : ∀ x, va_A wc H.size x → A x := by
  intro x h
  rcases vA_iff.mp h with ⟨e, he⟩ | h
  · exact (vd_iff.mp hD).2 (x, e) (hp.mem_iff.mpr (List.mem_append_left _ he))
  · exact hA x (Nat.le_trans hS.1 h)
theorem mt_goiR {S : Type} {post : Int32 → S → Prop} {w2 : S → va_W} {mc ms : Nat} {av : Array Value} (hp : List.Perm ws (wc ++ wr)) (hr : va_Run p l e R s m args below meth c H locs cells slots mc ms (F0 m pc ls st) rest (va_Qi post (mt_B D wc H.size w2) (va_A wc H.size) av) (va_A wc H.size)) (hP : va_P D vwCl ws H) (hD : va_D A ws) (hS : va_S A H0 H locs) (hA : ∀ x : Nat, H0.size ≤ x → A x)
    (kk : ∀ (r : Int32) (u : S) (H1 : Heap) (locs1 : List Loc), post r u → va_P D vwCl (w2 u ++ wr) H1 → va_D A (w2 u ++ wr) → va_S A H0 H1 locs1 → W p l e R s m args below meth c H1 locs1 (cells + mc) (slots + ms) Q (F0 m (pc + 3) ls (.int r :: rest))) : W p l e R s m args below meth c H locs cells slots Q (F0 m pc ls st) := by
  have hF := fr_R hp hD hS hA
  refine va_calli hr hS (fun x _ h => hF x h) hF (fun r u t H1 locs1 ht hvm hw hB hz1 hk1 hS1 => ?_)
  obtain ⟨hP1, hD1⟩ := hB
  rw [ht] at hP1
  obtain ⟨hP2, hD2⟩ := jn_perm hp hP hD hk1 hF hP1 hD1
  exact kk r u H1 locs1 hw hP2 hD2 hS1
end RC
