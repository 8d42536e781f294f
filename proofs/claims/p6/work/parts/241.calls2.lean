/-! Calls by permutation: a long answer; what a reader needs. -/
section RC
variable {p : Program} {l : Launch} {e : Env} {R : Room} {s : State} {m : MethodId} {args : Array Value} {below : List Frame} {meth : Method} {c : Code} {H : Heap} {locs : List Loc} {cells slots : Nat} {Q : State → Prop}
variable {pc : Nat} {ls : Array Slot} {rest st : List Value} {D : va_G} {ws wc wr : va_W} {A : Nat → Prop} {H0 : Heap}
theorem mt_golR {S : Type} {post : Int64 → S → Prop} {w2 : S → va_W} {mc ms : Nat} {av : Array Value} (hp : List.Perm ws (wc ++ wr)) (hr : va_Run p l e R s m args below meth c H locs cells slots mc ms (F0 m pc ls st) rest (va_Ql post (mt_B D wc H.size w2) (va_A wc H.size) av) (va_A wc H.size)) (hP : va_P D vwCl ws H) (hD : va_D A ws) (hS : va_S A H0 H locs) (hA : ∀ x : Nat, H0.size ≤ x → A x)
    (kk : ∀ (r : Int64) (u : S) (H1 : Heap) (locs1 : List Loc), post r u → va_P D vwCl (w2 u ++ wr) H1 → va_D A (w2 u ++ wr) → va_S A H0 H1 locs1 → W p l e R s m args below meth c H1 locs1 (cells + mc) (slots + ms) Q (F0 m (pc + 3) ls (.long r :: rest))) : W p l e R s m args below meth c H locs cells slots Q (F0 m pc ls st) := by
  have hF := fr_R hp hD hS hA
  refine va_calll hr hS (fun x _ h => hF x h) hF (fun r u t H1 locs1 ht hvm hw hB hz1 hk1 hS1 => ?_)
  obtain ⟨hP1, hD1⟩ := hB
  rw [ht] at hP1
  obtain ⟨hP2, hD2⟩ := jn_perm hp hP hD hk1 hF hP1 hD1
  exact kk r u H1 locs1 hw hP2 hD2 hS1
end RC
/-- the callee's cells out of ours -/
theorem pp_l {D : va_G} {cl : List vw_C} {ws x y : va_W} {H : Heap} (hp : List.Perm ws (x ++ y)) (h : va_P D cl ws H) : va_P D cl x H := vp_iff.mpr (fun z hz => vp_iff.mp h z (hp.mem_iff.mpr (List.mem_append_left _ hz)))
theorem pp_d {A : Nat → Prop} {ws x y : va_W} (hp : List.Perm ws (x ++ y)) (h : va_D A ws) : va_D A x := by
  have h1 := vd_iff.mp (vd_perm hp h)
  rw [List.map_append, List.nodup_append] at h1
  exact vd_iff.mpr ⟨h1.1.1, fun z hz => h1.2 z (List.mem_append_left _ hz)⟩
