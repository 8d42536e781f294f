/-! My own rows: one list of words for every contract, the shape of a contract, calls. -/
def w_all : List Cond := lw_tbl.filter goodWord
theorem w_in {w : Cond} (k : Nat) (h : lw_tbl[k]? = some w) (hg : goodWord w = true) : w ∈ w_all := List.mem_filter.mpr ⟨List.mem_of_getElem? h, hg⟩
theorem w_inT {w : Cond} {T : List Cond} (hs : ∀ w ∈ T, w ∈ tables_1) (k : Nat) (h : T[k]? = some w) (hg : goodWord w = true) : w ∈ w_all := List.mem_filter.mpr ⟨List.mem_append_right _ (hs w (List.mem_of_getElem? h)), hg⟩
theorem w_good {w : Cond} (h : w ∈ w_all) : (w.onTables && w.keeps) = true ∨ ∃ ty, w = .arrayClass ty := good_of_word (List.mem_filter.mp h).2
theorem w_tbl {w : Cond} (h : w ∈ w_all) : w ∈ lw_tbl := (List.mem_filter.mp h).1
theorem w_gin {ws : List Cond} (h : ∀ w ∈ ws, w ∈ w_all) : GoodIn w_all ws := fun w hw => ⟨h w hw, w_good (h w hw)⟩
/-- the words of an instance method, and of a static one -/
def wd_V (y : MethodName) (bytes : ByteArray) (maxL : Nat) (ret : Option FieldType) (n : Nat) : Prop := Cond.instanceMethod y ∈ w_all ∧ Cond.selects y.cls y y ∈ w_all ∧ Cond.initialized y.cls ∈ w_all ∧ Cond.code y bytes maxL ret ∈ w_all ∧ y.cls ≠ "java/lang/invoke/MethodHandle" ∧ y.cls ≠ "java/lang/invoke/VarHandle" ∧ (parseMethodDescriptor y.desc).map (fun d => d.parameters.length) = some n
def wd_S (y : MethodName) (bytes : ByteArray) (maxL : Nat) (ret : Option FieldType) (n : Nat) : Prop := Cond.static y ∈ w_all ∧ Cond.initialized y.cls ∈ w_all ∧ Cond.code y bytes maxL ret ∈ w_all ∧ y.cls ≠ "java/lang/invoke/MethodHandle" ∧ y.cls ≠ "java/lang/invoke/VarHandle" ∧ (parseMethodDescriptor y.desc).map (fun d => d.parameters.length) = some n
def wd_I (y : MethodName) (bytes : ByteArray) (maxL : Nat) (n : Nat) : Prop := Cond.instanceMethod y ∈ w_all ∧ Cond.initialized y.cls ∈ w_all ∧ Cond.code y bytes maxL none ∈ w_all ∧ y.name = "<init>" ∧ y.cls ≠ "java/lang/invoke/MethodHandle" ∧ y.cls ≠ "java/lang/invoke/VarHandle" ∧ (parseMethodDescriptor y.desc).map (fun d => d.parameters.length) = some n
abbrev ty_l (q : Nat → ClassId) : List (ClassId × FieldType) := [(q 0, .int), (q 1, .long), (q 2, .byte), (q 3, .boolean), (q 4, .object "FlapBoard$Board")]
/-- the twelve words that both programs know, and where their constants stand -/
def st_l : List (String × Nat × String × Nat) := [("FlapBoard$Tape", 52, "board", 0), ("FlapBoard$Tape", 58, "limit", 1), ("FlapBoard$Tape", 60, "drum", 2), ("FlapBoard$Tape", 62, "cells", 3), ("FlapBoard$Tape", 64, "worn", 4), ("FlapBoard$Tape", 66, "row", 5), ("FlapBoard$Tape", 68, "lose", 6), ("FlapBoard$Tape", 70, "scroll", 7), ("FlapBoard$Tape", 72, "home", 8), ("FlapBoard$Tape", 74, "wait", 9), ("FlapBoard$Tape", 76, "settle", 10), ("FlapBoard$Tape", 78, "times", 11), ("FlapBoardModel", 344, "board", 0), ("FlapBoardModel", 349, "limit", 1), ("FlapBoardModel", 320, "drum", 2), ("FlapBoardModel", 325, "cells", 3), ("FlapBoardModel", 326, "worn", 4), ("FlapBoardModel", 328, "row", 5), ("FlapBoardModel", 330, "lose", 6), ("FlapBoardModel", 373, "scroll", 7), ("FlapBoardModel", 378, "home", 8), ("FlapBoardModel", 383, "wait", 9), ("FlapBoardModel", 388, "settle", 10), ("FlapBoardModel", 396, "times", 11)]
def st_len : List Nat := [5, 5, 4, 5, 4, 3, 4, 6, 4, 4, 6, 5]
def st_byt : List (List Int32) := [[98, 111, 97, 114, 100], [108, 105, 109, 105, 116], [100, 114, 117, 109], [99, 101, 108, 108, 115], [119, 111, 114, 110], [114, 111, 119], [108, 111, 115, 101], [115, 99, 114, 111, 108, 108], [104, 111, 109, 101], [119, 97, 105, 116], [115, 101, 116, 116, 108, 101], [116, 105, 109, 101, 115]]
/-- what is known of the tables, whatever the heap: classes, String constants (the i-th at q (100 + i)), links between nest mates -/
def kn (D : va_G) (q : Nat → ClassId) (U : State) : Prop := va_K D vwCl (ty_l q) U ∧ va_AO "FlapBoard$Board" U ∧ (∀ z ∈ st_l, vk_R z.1 z.2.1 z.2.2.1 (q (100 + z.2.2.2)) U) ∧ va_Nw (.methodLinkNest "FlapBoard$Tape" 103 yX6_isSign "FlapBoard") U ∧ va_Nw (.methodLinkNest "FlapBoard$Board" 174 yX6_behind "FlapBoard") U ∧ va_Nw (.methodLinkNest "FlapBoard$Board" 154 yX6_onFrom "FlapBoard") U
theorem kn_same {D : va_G} {q : Nat → ClassId} {u U : State} (hv : U.vm = u.vm) (h : kn D q u) : kn D q U := ⟨va_K.moved (by rw [hv]; exact Vm.Alike.refl _) h.1, va_AO.moved (by rw [hv]; exact Vm.Alike.refl _) h.2.1, fun z hz => vk_R.same hv (h.2.2.1 z hz), va_Nw.same rfl hv.symm h.2.2.2.1, va_Nw.same rfl hv.symm h.2.2.2.2.1, va_Nw.same rfl hv.symm h.2.2.2.2.2⟩
theorem kn_warm {D : va_G} {q : Nat → ClassId} {s U : State} (hW : s.WarmedH U.vm) (h : kn D q s) : kn D q U := ⟨va_K.moved hW.alike h.1, va_AO.moved hW.alike h.2.1, fun z hz => vk_R.warm hW (h.2.2.1 z hz), va_Nw.warmM hW h.2.2.2.1, va_Nw.warmM hW h.2.2.2.2.1, va_Nw.warmM hW h.2.2.2.2.2⟩
/-- what lies in the heap from the start on, outside of what may change: the constants' cells, two statics of the JDK -/
def sv (q : Nat → ClassId) (A : Nat → Prop) (U : State) (H : Heap) : Prop := vk_S 12 st_len st_byt (fun i => q (100 + i)) (fun i => q (200 + i)) A U H ∧ va_Z "java/lang/String" "COMPACT_STRINGS" "Z" (.int 1) A U H ∧ va_Zq "jdk/internal/util/Preconditions" "SIOOBE_FORMATTER" "Ljava/util/function/BiFunction;" A U H
theorem sv_moved {q : Nat → ClassId} {A : Nat → Prop} {u U : State} {H : Heap} (hvm : u.vm.Alike U.vm) (h : sv q A u H) : sv q A U H := ⟨vk_S.moved hvm h.1, va_Z.moved hvm h.2.1, va_Zq.moved hvm h.2.2⟩
theorem sv_kept {q : Nat → ClassId} {A : Nat → Prop} {U : State} {H H1 : Heap} (h : sv q A U H) (hq : ∀ a : Nat, a < H.size → ¬ A a → H1[a]? = H[a]?) : sv q A U H1 := ⟨h.1.kept hq, h.2.1.kept hq, h.2.2.kept hq⟩
theorem sv_narrow {q : Nat → ClassId} {A B : Nat → Prop} {U : State} {H : Heap} (h : sv q A U H) (hAB : ∀ x, B x → A x) : sv q B U H := ⟨h.1.narrow hAB, h.2.1.narrow hAB, h.2.2.narrow hAB⟩
/-- a contract's start: one that only reads, one that writes -/
def rd_P (D : va_G) (q : Nat → ClassId) (av : List Value) (ws : va_W) : Array Value → State → Prop := va_Pc av (fun U => va_P D vwCl ws U.heap ∧ kn D q U ∧ sv q (fun _ => False) U U.heap)
def mt_P (D : va_G) (q : Nat → ClassId) (av : List Value) (ws : va_W) (sz : Nat) : Array Value → State → Prop := va_Pc av (fun U => U.heap.size = sz ∧ va_P D vwCl ws U.heap ∧ kn D q U ∧ va_D (fun _ => True) ws ∧ sv q (va_A ws sz) U U.heap)
def mt_B {S : Type} (D : va_G) (ws : va_W) (sz : Nat) (w2 : S → va_W) : S → State → Prop := fun u t => va_P D vwCl (w2 u) t.heap ∧ va_D (va_A ws sz) (w2 u)
theorem rd_blind {D : va_G} {q : Nat → ClassId} {av : List Value} {ws : va_W} : FrameBlind (rd_P D q av ws) := fun a U g mk h => ⟨h.1, h.2.1, kn_same (u := U) (U := U.calling g mk a) rfl h.2.2.1, sv_moved (u := U) (U := U.calling g mk a) (Vm.Alike.refl U.vm) h.2.2.2⟩
theorem mt_blind {D : va_G} {q : Nat → ClassId} {av : List Value} {ws : va_W} {sz : Nat} : FrameBlind (mt_P D q av ws sz) := fun a U g mk h => ⟨h.1, h.2.1, h.2.2.1, kn_same (u := U) (U := U.calling g mk a) rfl h.2.2.2.1, h.2.2.2.2.1, sv_moved (u := U) (U := U.calling g mk a) (Vm.Alike.refl U.vm) h.2.2.2.2.2⟩
theorem rd_start {l : Launch} {y : MethodName} {cc : ByteArray} {maxL : Nat} {ret : Option FieldType} {rm : Room} {D : va_G} {q : Nat → ClassId} {av : List Value} {ws : va_W} {Qc : Array Value → State → Outcome → State → Prop} {free : Addr → Prop} {mc ms : Nat} (hy : plainName y.cls = true) (hav : (lg_sl av).length ≤ maxL)
    (body : ∀ (p : Program) (e : Env) (s : State) (m : MethodId) (below : List Frame) (meth : Method) (c : Code) (ls : Array Slot), p.tables.exec = Jvm.exec → c.code = cc → meth.sig.returnType = ret → c.maxLocals = maxL → s.vm.findClass y.cls = some m.cls → (∀ w ∈ w_all, w.before av.toArray s = true) → meth.locks = false → va_P D vwCl ws s.heap → kn D q s → sv q (fun _ => False) s s.heap → lv_has ls maxL (lv_args 0 av) → W p l e rm s m av.toArray below meth c s.heap [] 0 0 (MQ below Qc av.toArray s mc ms free) (F0 m 0 ls [])) : Met l y (Cond.code y cc maxL ret :: w_all) rm (rd_P D q av ws) Qc mc ms free := by
  refine Met.ofW (cc := cc) (maxL := maxL) (ret := ret) hy rfl ?_
  intro p e s m args below meth c s₁ B hml hv
  obtain ⟨rfl, hP, hK, hV⟩ := hv
  have hts := atoms_spec (ws := Cond.code y cc maxL ret :: w_all) B.pre
  rw [lg_entry_eq]
  exact body p e s m below meth c _ B.exec B.bytes B.returns hml (findClass_of_methodNamed B.named) (fun w hw => hts w (List.mem_cons_of_mem _ hw)) B.notSynchronized hP hK hV (lv_entry av hav)
theorem mt_start {l : Launch} {y : MethodName} {cc : ByteArray} {maxL : Nat} {ret : Option FieldType} {rm : Room} {D : va_G} {q : Nat → ClassId} {av : List Value} {ws : va_W} {sz : Nat} {Qc : Array Value → State → Outcome → State → Prop} {free : Addr → Prop} {mc ms : Nat} (hy : plainName y.cls = true) (hav : (lg_sl av).length ≤ maxL)
    (body : ∀ (p : Program) (e : Env) (s : State) (m : MethodId) (below : List Frame) (meth : Method) (c : Code) (ls : Array Slot), p.tables.exec = Jvm.exec → c.code = cc → meth.sig.returnType = ret → c.maxLocals = maxL → s.vm.findClass y.cls = some m.cls → (∀ w ∈ w_all, w.before av.toArray s = true) → meth.locks = false → meth.name = y.name → va_P D vwCl ws s.heap → kn D q s → va_D (va_A ws sz) ws → (∀ x : Nat, s.heap.size ≤ x → va_A ws sz x) → va_S (va_A ws sz) s.heap s.heap [] → sv q (va_A ws sz) s s.heap → lv_has ls maxL (lv_args 0 av) → W p l e rm s m av.toArray below meth c s.heap [] 0 0 (MQ below Qc av.toArray s mc ms free) (F0 m 0 ls [])) : Met l y (Cond.code y cc maxL ret :: w_all) rm (mt_P D q av ws sz) Qc mc ms free := by
  refine Met.ofW (cc := cc) (maxL := maxL) (ret := ret) hy rfl ?_
  intro p e s m args below meth c s₁ B hml hv
  obtain ⟨rfl, hsz, hP, hK, hD, hV⟩ := hv
  have hts := atoms_spec (ws := Cond.code y cc maxL ret :: w_all) B.pre
  rw [lg_entry_eq]
  exact body p e s m below meth c _ B.exec B.bytes B.returns hml (findClass_of_methodNamed B.named) (fun w hw => hts w (List.mem_cons_of_mem _ hw)) B.notSynchronized (name_of_methodNamed B.named B.method).1 hP hK hD.self (fun x h => Or.inr (hsz ▸ h)) va_S.rf hV (lv_entry av hav)
section BB
variable {p : Program} {l : Launch} {e : Env} {R : Room} {s : State} {m : MethodId} {args : Array Value} {below : List Frame} {meth : Method} {c : Code} {H : Heap} {locs : List Loc} {cells slots : Nat} {Q : State → Prop}
variable {cc : ByteArray} {pc nL : Nat} {ls : Array Slot} {rest st : List Value} {D : va_G} {q : Nat → ClassId} {ws wc : va_W} {A : Nat → Prop} {H0 : Heap}
theorem ab_i {x v : Int32} (h : x = v) (k : W p l e R s m args below meth c H locs cells slots Q (F0 m pc ls (.int v :: rest))) : W p l e R s m args below meth c H locs cells slots Q (F0 m pc ls (.int x :: rest)) := h ▸ k
theorem ab_l {x v : Int64} (h : x = v) (k : W p l e R s m args below meth c H locs cells slots Q (F0 m pc ls (.long v :: rest))) : W p l e R s m args below meth c H locs cells slots Q (F0 m pc ls (.long x :: rest)) := h ▸ k
theorem ab_ldcSw {own tx : String} {index q : Nat} (hx : p.tables.exec = Jvm.exec) (hb : c.code = cc) (hown : s.vm.findClass own = some m.cls) (hZ : vk_R own index tx q s) (hdg : decode cc pc = .ok (.ldc_w index, 3)) (k : W p l e R s m args below meth c H locs cells slots Q (F0 m (pc + 3) ls (.ref q :: rest))) : W p l e R s m args below meth c H locs cells slots Q (F0 m pc ls rest) := by
  intro T hT X
  obtain ⟨t, a1, b1⟩ := k T hT X
  exact ⟨t, X.ldcStringW hx hown (text := tx) (a := q) hZ.1 hZ.2 (g := F0 m pc ls rest) rfl (by rw [hb]; exact hdg) t a1, b1⟩
/-- ends -/
theorem rd_iret {post : Int32 → Prop} {v : Int32} (hx : p.tables.exec = Jvm.exec) (hb : c.code = cc) (hr : meth.sig.returnType = some .int) (hk : meth.locks = false) (hp : post v) (hdg : decode cc pc = .ok (.ireturn, 1)) : W p l e R s m args below meth c s.heap [] 0 0 (MQ below (vp_Si post) args s 0 0 (fun _ => False)) (F0 m pc ls [.int v]) := W.iret hx hb hr (fun _ ht _ => ⟨v, rfl, hp, ht⟩) (fun _ h => by cases h) hdg hk
theorem rd_zret {post : Int32 → Prop} {v : Int32} {ty : FieldType} (hx : p.tables.exec = Jvm.exec) (hb : c.code = cc) (hr : meth.sig.returnType = some ty) (hk : meth.locks = false) (hn : narrow ty (.int v) = .int v) (hp : post v) (hdg : decode cc pc = .ok (.ireturn, 1)) : W p l e R s m args below meth c s.heap [] 0 0 (MQ below (vp_Si post) args s 0 0 (fun _ => False)) (F0 m pc ls [.int v]) := W.zret hx hb hr hn (fun _ ht _ => ⟨v, rfl, hp, ht⟩) (fun _ h => by cases h) hdg hk
theorem rd_vret (hx : p.tables.exec = Jvm.exec) (hb : c.code = cc) (hr : meth.sig.returnType = none) (hk : meth.locks = false) (hdg : decode cc pc = .ok (.return_, 1)) : W p l e R s m args below meth c s.heap [] 0 0 (MQ below (va_Sv (fun _ => True)) args s 0 0 (fun _ => False)) (F0 m pc ls []) := W.vret hx hb hr (fun _ ht _ => ⟨rfl, trivial, ht⟩) (fun _ h => by cases h) hdg hk
theorem rd_lret {post : Int64 → Prop} {v : Int64} (hx : p.tables.exec = Jvm.exec) (hb : c.code = cc) (hr : meth.sig.returnType = some .long) (hk : meth.locks = false) (hp : post v) (hdg : decode cc pc = .ok (.lreturn, 1)) : W p l e R s m args below meth c s.heap [] 0 0 (MQ below (vp_Sl post) args s 0 0 (fun _ => False)) (F0 m pc ls [.long v]) := W.lret hx hb hr (fun _ ht _ => ⟨v, rfl, hp, ht⟩) (fun _ h => by cases h) hdg hk
theorem mt_iret {S : Type} {post : Int32 → S → Prop} {w2 : S → va_W} {sz : Nat} {v : Int32} (u : S) (hx : p.tables.exec = Jvm.exec) (hb : c.code = cc) (hr : meth.sig.returnType = some .int) (hk : meth.locks = false) (hp : post v u) (hP : va_P D vwCl (w2 u) H) (hD : va_D (va_A ws sz) (w2 u)) (hS : va_S (va_A ws sz) s.heap H locs) (hdg : decode cc pc = .ok (.ireturn, 1)) : W p l e R s m args below meth c H locs cells slots (MQ below (va_Qi post (mt_B D ws sz w2) (va_A ws sz)) args s cells slots (va_A ws sz)) (F0 m pc ls [.int v]) := W.iret hx hb hr (fun _ ht _ => ⟨⟨v, u, rfl, hp, by rw [ht]; exact hP, hD⟩, hS.F ht⟩) hS.2.2 hdg hk
theorem mt_zret {S : Type} {post : Int32 → S → Prop} {w2 : S → va_W} {sz : Nat} {v : Int32} {ty : FieldType} (u : S) (hx : p.tables.exec = Jvm.exec) (hb : c.code = cc) (hr : meth.sig.returnType = some ty) (hk : meth.locks = false) (hn : narrow ty (.int v) = .int v) (hp : post v u) (hP : va_P D vwCl (w2 u) H) (hD : va_D (va_A ws sz) (w2 u)) (hS : va_S (va_A ws sz) s.heap H locs) (hdg : decode cc pc = .ok (.ireturn, 1)) : W p l e R s m args below meth c H locs cells slots (MQ below (va_Qi post (mt_B D ws sz w2) (va_A ws sz)) args s cells slots (va_A ws sz)) (F0 m pc ls [.int v]) := W.zret hx hb hr hn (fun _ ht _ => ⟨⟨v, u, rfl, hp, by rw [ht]; exact hP, hD⟩, hS.F ht⟩) hS.2.2 hdg hk
theorem mt_vret {S : Type} {post : S → Prop} {w2 : S → va_W} {sz : Nat} (u : S) (hx : p.tables.exec = Jvm.exec) (hb : c.code = cc) (hr : meth.sig.returnType = none) (hk : meth.locks = false) (hp : post u) (hP : va_P D vwCl (w2 u) H) (hD : va_D (va_A ws sz) (w2 u)) (hS : va_S (va_A ws sz) s.heap H locs) (hdg : decode cc pc = .ok (.return_, 1)) : W p l e R s m args below meth c H locs cells slots (MQ below (va_Qv post (mt_B D ws sz w2) (va_A ws sz)) args s cells slots (va_A ws sz)) (F0 m pc ls []) := W.vret hx hb hr (fun _ ht _ => ⟨⟨u, rfl, hp, by rw [ht]; exact hP, hD⟩, hS.F ht⟩) hS.2.2 hdg hk
/-- a field, by the one list of words -/
theorem fl_get {own C : String} {T : u_T} {N ci index : Nat} (hx : p.tables.exec = Jvm.exec) (hb : c.code = cc) (ht : ∀ w ∈ w_all, w.before args s = true) (hin : ∀ w ∈ u_ws C T N, w ∈ w_all) (hown : s.vm.findClass own = some m.cls) (hK : va_K D vwCl (ty_l q) s) (hP : va_P D vwCl ws H) {a : Nat} (q0 : Nat) {fs : List Value} (he : ws[q0]? = some (a, .inr (ci, fs))) (hc : vwCl[ci]? = some (C, T, N)) (k : Nat) (hk : k < N) (hl : Cond.fieldLink own index (T k).1 (T k).2.1 (T k).2.2.1 ∈ w_all) {v : Value} (hv : fs[k]? = some v) (hdg : decode cc pc = .ok (.getfield index, 3)) (kk : W p l e R s m args below meth c H locs cells slots Q (F0 m (pc + 3) ls (v :: rest))) : W p l e R s m args below meth c H locs cells slots Q (F0 m pc ls (.ref a :: rest)) :=
  va_get hx hb ht hin hown hK hP q0 he hc k hk (ht _ hl) (fun _ h => h) hv hdg kk
theorem fl_put {own C : String} {T : u_T} {N ci index : Nat} (hx : p.tables.exec = Jvm.exec) (hb : c.code = cc) (ht : ∀ w ∈ w_all, w.before args s = true) (hin : ∀ w ∈ u_ws C T N, w ∈ w_all) {ty0 : Nat → FieldType} (hty : ∀ k, k < N → parseFieldDescriptor (T k).2.2.1 = some (ty0 k)) (hnm : ∀ a, a < N → ∀ b, b < N → a ≠ b → (T a).2.1 ≠ (T b).2.1) (hown : s.vm.findClass own = some m.cls) (hK : va_K D vwCl (ty_l q) s) (hP : va_P D vwCl ws H) (hD : va_D A ws) (hS0 : va_S A H0 H locs) {a : Nat} (q0 : Nat) {fs : List Value} (he : ws[q0]? = some (a, .inr (ci, fs))) (hc : vwCl[ci]? = some (C, T, N)) (k : Nat) (hk : k < N) (hl : Cond.fieldLink own index (T k).1 (T k).2.1 (T k).2.2.1 ∈ w_all) (hfin : (T k).2.2.2 = false) {v : Value} (hn : narrow (ty0 k) v = v) (hfit : fits (ty0 k) v = true) (hlk : k < fs.length) (hdg : decode cc pc = .ok (.putfield index, 3)) {ws2 : va_W} (hw2 : ws.set q0 (a, .inr (ci, fs.set k v)) = ws2)
    (kk : ∀ (H1 : Heap) (locs1 : List Loc), va_P D vwCl ws2 H1 → va_D A ws2 → va_S A H0 H1 locs1 → W p l e R s m args below meth c H1 locs1 cells slots Q (F0 m (pc + 3) ls rest)) : W p l e R s m args below meth c H locs cells slots Q (F0 m pc ls (v :: .ref a :: rest)) := by
  subst hw2
  exact va_put hx hb ht hin ty0 hty hnm hown hK hP hD hS0 q0 he hc k hk (ht _ hl) (fun _ h => h) hfin (hty k hk) hn hfit hlk hdg kk
theorem fl_putF {own C : String} {T : u_T} {N ci index : Nat} (hx : p.tables.exec = Jvm.exec) (hb : c.code = cc) (ht : ∀ w ∈ w_all, w.before args s = true) (hin : ∀ w ∈ u_ws C T N, w ∈ w_all) {ty0 : Nat → FieldType} (hty : ∀ k, k < N → parseFieldDescriptor (T k).2.2.1 = some (ty0 k)) (hnm : ∀ a, a < N → ∀ b, b < N → a ≠ b → (T a).2.1 ≠ (T b).2.1) (hown : s.vm.findClass own = some m.cls) (hK : va_K D vwCl (ty_l q) s) (hP : va_P D vwCl ws H) (hD : va_D A ws) (hS0 : va_S A H0 H locs) {a : Nat} (q0 : Nat) {fs : List Value} (he : ws[q0]? = some (a, .inr (ci, fs))) (hc : vwCl[ci]? = some (C, T, N)) (k : Nat) (hk : k < N) (hl : Cond.fieldLink own index (T k).1 (T k).2.1 (T k).2.2.1 ∈ w_all) (hfin : (T k).2.2.2 = true) (hin2 : meth.name = "<init>") (hdecl : (T k).1 = own) {v : Value} (hn : narrow (ty0 k) v = v) (hfit : fits (ty0 k) v = true) (hlk : k < fs.length) (hdg : decode cc pc = .ok (.putfield index, 3)) {ws2 : va_W} (hw2 : ws.set q0 (a, .inr (ci, fs.set k v)) = ws2)
    (kk : ∀ (H1 : Heap) (locs1 : List Loc), va_P D vwCl ws2 H1 → va_D A ws2 → va_S A H0 H1 locs1 → W p l e R s m args below meth c H1 locs1 cells slots Q (F0 m (pc + 3) ls rest)) : W p l e R s m args below meth c H locs cells slots Q (F0 m pc ls (v :: .ref a :: rest)) := by
  subst hw2
  exact va_putF hx hb ht hin ty0 hty hnm hown hK hP hD hS0 q0 he hc k hk (ht _ hl) (fun _ h => h) hfin hin2 hdecl (hty k hk) hn hfit hlk hdg kk
/-- a call of a method that only reads, at a world of its own among ours -/
theorem rd_wV {y : MethodName} {bytes : ByteArray} {maxL n : Nat} {ret : Option FieldType} {rm : Room} {own : String} {index : Nat} {As : List Value} {b : Nat} {ci : Nat} {fs : List Value} {T : u_T} {N : Nat} {Qc : Array Value → State → Outcome → State → Prop}
    (hx : p.tables.exec = Jvm.exec) (hb : c.code = cc) (hml : c.maxLocals = nL) (hown : s.vm.findClass own = some m.cls) (ht : ∀ w ∈ w_all, w.before args s = true) (hM : Met l y (Cond.code y bytes maxL ret :: w_all) rm (rd_P D q (.ref b :: As) wc) Qc 0 0 (fun _ => False)) (wy : wd_V y bytes maxL ret n) (hl : Cond.methodLink own index y ∈ w_all) (hQ : kn D q s) (hV : sv q A s s.heap) (hS : va_S A s.heap H locs) (hP : va_P D vwCl wc H) (he : wc[0]? = some (b, .inr (ci, fs))) (hc : vwCl[ci]? = some (y.cls, T, N)) (hn : As.length = n) (hz : ls.size = nL) (hst : st = As.reverse ++ .ref b :: rest) (hW : (rest.map fun v => v.category).sum ≤ 8) (hdg : decode cc pc = .ok (.invokevirtual index, 3)) (hR : rm.frames + 1 ≤ R.frames ∧ 8 + (maxL + 11) + rm.locals ≤ R.locals ∧ rm.cells = 0 ∧ rm.slots = 0) (hcs : cells ≤ R.cells ∧ slots ≤ R.slots) :
    CallRun p l e R s m args below meth c H locs cells slots 0 0 (F0 m pc ls st) rest (Qc (Value.ref b :: As).toArray) (fun _ => False) := by
  obtain ⟨w1, w2, w3, w4, w5, w6, w7⟩ := wy
  have hG : GoodIn w_all (Cond.code y bytes maxL ret :: w_all) := w_gin (fun w h => (List.mem_cons.mp h).elim (fun e => e ▸ w4) id)
  exact W.runV ⟨hx, hb, hml, hown, ht⟩ hM ⟨callB_of n ht hG rfl hR.2.2.1 hR.2.2.2 (ht _ w3) (ht _ hl) ⟨w5, w6, w7⟩ ⟨hR.1, hR.2.1⟩, ht _ w1, ht _ w2⟩ ⟨rd_blind, va_recv hQ.1 hP hc he, fun U hU hW => ⟨rfl, by rw [hU]; exact hP, kn_warm hW hQ, by rw [hU]; exact sv_moved hW.alike (sv_narrow (sv_kept hV hS.2.1) (fun _ h => h.elim))⟩⟩ rfl hn hz hst (lv_room hW) hdg ⟨hcs.1, hcs.2⟩
theorem rd_wS {y : MethodName} {bytes : ByteArray} {maxL n : Nat} {ret : Option FieldType} {rm : Room} {own : String} {index : Nat} {As : List Value} {Qc : Array Value → State → Outcome → State → Prop}
    (hx : p.tables.exec = Jvm.exec) (hb : c.code = cc) (hml : c.maxLocals = nL) (hown : s.vm.findClass own = some m.cls) (ht : ∀ w ∈ w_all, w.before args s = true) (hM : Met l y (Cond.code y bytes maxL ret :: w_all) rm (rd_P D q As wc) Qc 0 0 (fun _ => False)) (wy : wd_S y bytes maxL ret n) (hl : Cond.methodLink own index y ∈ w_all) (hQ : kn D q s) (hV : sv q A s s.heap) (hS : va_S A s.heap H locs) (hP : va_P D vwCl wc H) (hn : As.length = n) (hz : ls.size = nL) (hst : st = As.reverse ++ rest) (hW : (rest.map fun v => v.category).sum ≤ 8) (hdg : decode cc pc = .ok (.invokestatic index, 3)) (hR : rm.frames + 1 ≤ R.frames ∧ 8 + (maxL + 11) + rm.locals ≤ R.locals ∧ rm.cells = 0 ∧ rm.slots = 0) (hcs : cells ≤ R.cells ∧ slots ≤ R.slots) :
    CallRun p l e R s m args below meth c H locs cells slots 0 0 (F0 m pc ls st) rest (Qc As.toArray) (fun _ => False) := by
  obtain ⟨w1, w3, w4, w5, w6, w7⟩ := wy
  have hG : GoodIn w_all (Cond.code y bytes maxL ret :: w_all) := w_gin (fun w h => (List.mem_cons.mp h).elim (fun e => e ▸ w4) id)
  exact W.runS ⟨hx, hb, hml, hown, ht⟩ hM ⟨callB_of n ht hG rfl hR.2.2.1 hR.2.2.2 (ht _ w3) (ht _ hl) ⟨w5, w6, w7⟩ ⟨hR.1, hR.2.1⟩, ht _ w1⟩ ⟨rd_blind, fun U hU hW => ⟨rfl, by rw [hU]; exact hP, kn_warm hW hQ, by rw [hU]; exact sv_moved hW.alike (sv_narrow (sv_kept hV hS.2.1) (fun _ h => h.elim))⟩⟩ rfl hn hz hst (lv_room hW) hdg ⟨hcs.1, hcs.2⟩
/-- a call on a String constant -/
theorem rd_wVs {i : Nat} {y : MethodName} {bytes : ByteArray} {maxL n : Nat} {ret : Option FieldType} {rm : Room} {own : String} {index : Nat} {As : List Value} {Qc : Array Value → State → Outcome → State → Prop}
    (hx : p.tables.exec = Jvm.exec) (hb : c.code = cc) (hml : c.maxLocals = nL) (hown : s.vm.findClass own = some m.cls) (ht : ∀ w ∈ w_all, w.before args s = true) (hM : Met l y (Cond.code y bytes maxL ret :: w_all) rm (rd_P D q (.ref (q (100 + i)) :: As) wc) Qc 0 0 (fun _ => False)) (wy : wd_V y bytes maxL ret n) (hl : Cond.methodLink own index y ∈ w_all) (hQ : kn D q s) (hV : sv q A s s.heap) (hS : va_S A s.heap H locs) (hP : va_P D vwCl wc H) (hi : i < 12) (hc : y.cls = "java/lang/String") (hn : As.length = n) (hz : ls.size = nL) (hst : st = As.reverse ++ .ref (q (100 + i)) :: rest) (hW : (rest.map fun v => v.category).sum ≤ 8) (hdg : decode cc pc = .ok (.invokevirtual index, 3)) (hR : rm.frames + 1 ≤ R.frames ∧ 8 + (maxL + 11) + rm.locals ≤ R.locals ∧ rm.cells = 0 ∧ rm.slots = 0) (hcs : cells ≤ R.cells ∧ slots ≤ R.slots) :
    CallRun p l e R s m args below meth c H locs cells slots 0 0 (F0 m pc ls st) rest (Qc (Value.ref (q (100 + i)) :: As).toArray) (fun _ => False) := by
  obtain ⟨w1, w2, w3, w4, w5, w6, w7⟩ := wy
  have hG : GoodIn w_all (Cond.code y bytes maxL ret :: w_all) := w_gin (fun w h => (List.mem_cons.mp h).elim (fun e => e ▸ w4) id)
  have hv := vk_recv (i := i) hV.1 hi hS
  rw [← hc] at hv
  exact W.runV ⟨hx, hb, hml, hown, ht⟩ hM ⟨callB_of n ht hG rfl hR.2.2.1 hR.2.2.2 (ht _ w3) (ht _ hl) ⟨w5, w6, w7⟩ ⟨hR.1, hR.2.1⟩, ht _ w1, ht _ w2⟩ ⟨rd_blind, hv, fun U hU hW => ⟨rfl, by rw [hU]; exact hP, kn_warm hW hQ, by rw [hU]; exact sv_moved hW.alike (sv_narrow (sv_kept hV hS.2.1) (fun _ h => h.elim))⟩⟩ rfl hn hz hst (lv_room hW) hdg ⟨hcs.1, hcs.2⟩
/-- a call of a method that writes -/
theorem mt_wV {y : MethodName} {bytes : ByteArray} {maxL n mc ms : Nat} {ret : Option FieldType} {rm : Room} {own : String} {index : Nat} {As : List Value} {b : Nat} {ci : Nat} {fs : List Value} {T : u_T} {N : Nat} {Qc : Array Value → State → Outcome → State → Prop} {free : Addr → Prop}
    (hx : p.tables.exec = Jvm.exec) (hb : c.code = cc) (hml : c.maxLocals = nL) (hown : s.vm.findClass own = some m.cls) (ht : ∀ w ∈ w_all, w.before args s = true) (hM : Met l y (Cond.code y bytes maxL ret :: w_all) rm (mt_P D q (.ref b :: As) wc H.size) Qc mc ms free) (wy : wd_V y bytes maxL ret n) (hl : Cond.methodLink own index y ∈ w_all) (hQ : kn D q s) (hV : sv q A s s.heap) (hS : va_S A s.heap H locs) (hA : ∀ x : Nat, s.heap.size ≤ x → A x) (hP : va_P D vwCl wc H) (hD : va_D A wc) (he : wc[0]? = some (b, .inr (ci, fs))) (hc : vwCl[ci]? = some (y.cls, T, N)) (hn : As.length = n) (hz : ls.size = nL) (hst : st = As.reverse ++ .ref b :: rest) (hW : (rest.map fun v => v.category).sum ≤ 8) (hdg : decode cc pc = .ok (.invokevirtual index, 3)) (hR : rm.frames + 1 ≤ R.frames ∧ 8 + (maxL + 11) + rm.locals ≤ R.locals ∧ rm.cells = mc ∧ rm.slots = ms) (hcs : cells + mc ≤ R.cells ∧ slots + ms ≤ R.slots) :
    va_Run p l e R s m args below meth c H locs cells slots mc ms (F0 m pc ls st) rest (Qc (Value.ref b :: As).toArray) free := by
  obtain ⟨w1, w2, w3, w4, w5, w6, w7⟩ := wy
  have hG : GoodIn w_all (Cond.code y bytes maxL ret :: w_all) := w_gin (fun w h => (List.mem_cons.mp h).elim (fun e => e ▸ w4) id)
  exact va_runV ⟨hx, hb, hml, hown, ht⟩ hM ⟨callB_of n ht hG rfl hR.2.2.1 hR.2.2.2 (ht _ w3) (ht _ hl) ⟨w5, w6, w7⟩ ⟨hR.1, hR.2.1⟩, ht _ w1, ht _ w2⟩ ⟨mt_blind, va_recv hQ.1 hP hc he, fun U hU hW => ⟨rfl, by rw [hU], by rw [hU]; exact hP, kn_warm hW hQ, hD.weaken (fun _ _ _ _ => trivial), by rw [hU]; exact sv_moved hW.alike (sv_narrow (sv_kept hV hS.2.1) (fun x h => h.elim (fun ⟨k, e9, hk⟩ => hD.2 k (x, e9) hk) (fun h => hA x (Nat.le_trans hS.1 h))))⟩⟩ rfl hn hz hst (lv_room hW) hdg hcs
theorem mt_wS {y : MethodName} {bytes : ByteArray} {maxL n mc ms : Nat} {ret : Option FieldType} {rm : Room} {own : String} {index : Nat} {As : List Value} {Qc : Array Value → State → Outcome → State → Prop} {free : Addr → Prop}
    (hx : p.tables.exec = Jvm.exec) (hb : c.code = cc) (hml : c.maxLocals = nL) (hown : s.vm.findClass own = some m.cls) (ht : ∀ w ∈ w_all, w.before args s = true) (hM : Met l y (Cond.code y bytes maxL ret :: w_all) rm (mt_P D q As wc H.size) Qc mc ms free) (wy : wd_S y bytes maxL ret n) (hl : Cond.methodLink own index y ∈ w_all) (hQ : kn D q s) (hV : sv q A s s.heap) (hS : va_S A s.heap H locs) (hA : ∀ x : Nat, s.heap.size ≤ x → A x) (hP : va_P D vwCl wc H) (hD : va_D A wc) (hn : As.length = n) (hz : ls.size = nL) (hst : st = As.reverse ++ rest) (hW : (rest.map fun v => v.category).sum ≤ 8) (hdg : decode cc pc = .ok (.invokestatic index, 3)) (hR : rm.frames + 1 ≤ R.frames ∧ 8 + (maxL + 11) + rm.locals ≤ R.locals ∧ rm.cells = mc ∧ rm.slots = ms) (hcs : cells + mc ≤ R.cells ∧ slots + ms ≤ R.slots) :
    va_Run p l e R s m args below meth c H locs cells slots mc ms (F0 m pc ls st) rest (Qc As.toArray) free := by
  obtain ⟨w1, w3, w4, w5, w6, w7⟩ := wy
  have hG : GoodIn w_all (Cond.code y bytes maxL ret :: w_all) := w_gin (fun w h => (List.mem_cons.mp h).elim (fun e => e ▸ w4) id)
  exact va_runS ⟨hx, hb, hml, hown, ht⟩ hM ⟨callB_of n ht hG rfl hR.2.2.1 hR.2.2.2 (ht _ w3) (ht _ hl) ⟨w5, w6, w7⟩ ⟨hR.1, hR.2.1⟩, ht _ w1⟩ ⟨mt_blind, fun U hU hW => ⟨rfl, by rw [hU], by rw [hU]; exact hP, kn_warm hW hQ, hD.weaken (fun _ _ _ _ => trivial), by rw [hU]; exact sv_moved hW.alike (sv_narrow (sv_kept hV hS.2.1) (fun x h => h.elim (fun ⟨k, e9, hk⟩ => hD.2 k (x, e9) hk) (fun h => hA x (Nat.le_trans hS.1 h))))⟩⟩ rfl hn hz hst (lv_room hW) hdg hcs
theorem mt_wI {y : MethodName} {bytes : ByteArray} {maxL n mc ms : Nat} {rm : Room} {own : String} {index : Nat} {As : List Value} {b : Nat} {Qc : Array Value → State → Outcome → State → Prop} {free : Addr → Prop}
    (hx : p.tables.exec = Jvm.exec) (hb : c.code = cc) (hml : c.maxLocals = nL) (hown : s.vm.findClass own = some m.cls) (ht : ∀ w ∈ w_all, w.before args s = true) (hM : Met l y (Cond.code y bytes maxL none :: w_all) rm (mt_P D q (.ref b :: As) wc H.size) Qc mc ms free) (wy : wd_I y bytes maxL n) (hl : Cond.methodLink own index y ∈ w_all) (hQ : kn D q s) (hV : sv q A s s.heap) (hS : va_S A s.heap H locs) (hA : ∀ x : Nat, s.heap.size ≤ x → A x) (hP : va_P D vwCl wc H) (hD : va_D A wc) (hn : As.length = n) (hz : ls.size = nL) (hst : st = As.reverse ++ .ref b :: rest) (hW : (rest.map fun v => v.category).sum ≤ 8) (hdg : decode cc pc = .ok (.invokespecial index, 3)) (hR : rm.frames + 1 ≤ R.frames ∧ 8 + (maxL + 11) + rm.locals ≤ R.locals ∧ rm.cells = mc ∧ rm.slots = ms) (hcs : cells + mc ≤ R.cells ∧ slots + ms ≤ R.slots) :
    va_Run p l e R s m args below meth c H locs cells slots mc ms (F0 m pc ls st) rest (Qc (Value.ref b :: As).toArray) free := by
  obtain ⟨w1, w3, w4, w4b, w5, w6, w7⟩ := wy
  have hG : GoodIn w_all (Cond.code y bytes maxL none :: w_all) := w_gin (fun w h => (List.mem_cons.mp h).elim (fun e => e ▸ w4) id)
  exact va_runI ⟨hx, hb, hml, hown, ht⟩ hM ⟨callB_of n ht hG rfl hR.2.2.1 hR.2.2.2 (ht _ w3) (ht _ hl) ⟨w5, w6, w7⟩ ⟨hR.1, hR.2.1⟩, w4b, ht _ w1⟩ ⟨mt_blind, fun U hU hW => ⟨rfl, by rw [hU], by rw [hU]; exact hP, kn_warm hW hQ, hD.weaken (fun _ _ _ _ => trivial), by rw [hU]; exact sv_moved hW.alike (sv_narrow (sv_kept hV hS.2.1) (fun x h => h.elim (fun ⟨k, e9, hk⟩ => hD.2 k (x, e9) hk) (fun h => hA x (Nat.le_trans hS.1 h))))⟩⟩ rfl hn hz hst (lv_room hW) hdg hcs
/-- behind such a call: the rest of our world beside what the method left -/
theorem mt_goi {S : Type} {post : Int32 → S → Prop} {w2 : S → va_W} {wr : va_W} {mc ms : Nat} {av : Array Value} (hr : va_Run p l e R s m args below meth c H locs cells slots mc ms (F0 m pc ls st) rest (va_Qi post (mt_B D wc H.size w2) (va_A wc H.size) av) (va_A wc H.size)) (hP : va_P D vwCl ws H) (hD : va_D A ws) (hS : va_S A H0 H locs) (hA : ∀ x : Nat, H0.size ≤ x → A x) (isC isR : List Nat) (hC : isC.map (fun i => ws[i]?) = wc.map some) (hR : isR.map (fun i => ws[i]?) = wr.map some) (hn : va_nd isR = true) (hdis : ∀ i ∈ isR, i ∉ isC)
    (kk : ∀ (r : Int32) (u : S) (H1 : Heap) (locs1 : List Loc), post r u → va_P D vwCl (wr ++ w2 u) H1 → va_D A (wr ++ w2 u) → va_S A H0 H1 locs1 → W p l e R s m args below meth c H1 locs1 (cells + mc) (slots + ms) Q (F0 m (pc + 3) ls (.int r :: rest))) : W p l e R s m args below meth c H locs cells slots Q (F0 m pc ls st) := by
  have hF := va_free (wc := wc) hD hS hA isC hC
  refine va_calli hr hS (fun x _ h => hF x h) hF (fun r u t H1 locs1 ht hvm hw hB hz1 hk1 hS1 => ?_)
  obtain ⟨hP1, hD1⟩ := hB
  rw [ht] at hP1
  obtain ⟨hP2, hD2⟩ := va_join hP hD isC isR hC hR hn hdis hk1 hF hP1 hD1
  exact kk r u H1 locs1 hw hP2 hD2 hS1
theorem mt_gov {S : Type} {post : S → Prop} {w2 : S → va_W} {wr : va_W} {mc ms : Nat} {av : Array Value} (hr : va_Run p l e R s m args below meth c H locs cells slots mc ms (F0 m pc ls st) rest (va_Qv post (mt_B D wc H.size w2) (va_A wc H.size) av) (va_A wc H.size)) (hP : va_P D vwCl ws H) (hD : va_D A ws) (hS : va_S A H0 H locs) (hA : ∀ x : Nat, H0.size ≤ x → A x) (isC isR : List Nat) (hC : isC.map (fun i => ws[i]?) = wc.map some) (hR : isR.map (fun i => ws[i]?) = wr.map some) (hn : va_nd isR = true) (hdis : ∀ i ∈ isR, i ∉ isC)
    (kk : ∀ (u : S) (H1 : Heap) (locs1 : List Loc), post u → va_P D vwCl (wr ++ w2 u) H1 → va_D A (wr ++ w2 u) → va_S A H0 H1 locs1 → W p l e R s m args below meth c H1 locs1 (cells + mc) (slots + ms) Q (F0 m (pc + 3) ls rest)) : W p l e R s m args below meth c H locs cells slots Q (F0 m pc ls st) := by
  have hF := va_free (wc := wc) hD hS hA isC hC
  refine va_callv hr hS (fun x _ h => hF x h) hF (fun u t H1 locs1 ht hvm hw hB hz1 hk1 hS1 => ?_)
  obtain ⟨hP1, hD1⟩ := hB
  rw [ht] at hP1
  obtain ⟨hP2, hD2⟩ := va_join hP hD isC isR hC hR hn hdis hk1 hF hP1 hD1
  exact kk u H1 locs1 hw hP2 hD2 hS1
/-- new rows of whole numbers: their class is the known one -/
theorem nw_i {n : Int32} {N : Nat} (hx : p.tables.exec = Jvm.exec) (hb : c.code = cc) (ht : ∀ w ∈ w_all, w.before args s = true) (hw : Cond.arrayClass .int ∈ w_all) (hK : va_K D vwCl (ty_l q) s) (hP : va_P D vwCl ws H) (hD : va_D A ws) (hS : va_S A H0 H locs) (hA : ∀ x, H0.size ≤ x → A x) (hn : ¬ n < 0) (hN : n.toNatClampNeg = N) (hbytes : N * componentBytes .int ≤ 536870912) (hcs : cells + 1 ≤ R.cells ∧ slots + N ≤ R.slots) (hdg : decode cc pc = .ok (.newarray .int, 2))
    (kk : ∀ (a : Nat) (H1 : Heap), va_P D vwCl (ws ++ [(a, .inl (q 0, N, .inl (fun _ => 0)))]) H1 → va_D A (ws ++ [(a, .inl (q 0, N, .inl (fun _ => 0)))]) → va_S A H0 H1 locs → W p l e R s m args below meth c H1 locs (cells + 1) (slots + N) Q (F0 m (pc + 2) ls (.ref a :: rest))) : W p l e R s m args below meth c H locs cells slots Q (F0 m pc ls (.int n :: rest)) := by
  refine va_newa (atype := .int) (ty := .int) (a0 := (N, .inl (fun _ => 0))) hx hb (ht _ hw) rfl hK hP hD hS hA (fun _ => rfl) hn hN hbytes hcs.1 hcs.2 hdg (fun a cA H1 hK1 hP1 hD1 hS1 => ?_)
  have h1 : s.vm.findClass ("[" ++ FieldType.int.toString) = some cA := (hK1.2 5 (cA, .int) rfl).2
  have h2 : s.vm.findClass ("[" ++ FieldType.int.toString) = some (q 0) := (hK.2 0 (q 0, .int) rfl).2
  have h3 : cA = q 0 := Option.some.inj (h1.symm.trans h2)
  subst h3
  exact kk a H1 hP1 hD1 hS1
theorem nw_l {n : Int32} {N : Nat} (hx : p.tables.exec = Jvm.exec) (hb : c.code = cc) (ht : ∀ w ∈ w_all, w.before args s = true) (hw : Cond.arrayClass .long ∈ w_all) (hK : va_K D vwCl (ty_l q) s) (hP : va_P D vwCl ws H) (hD : va_D A ws) (hS : va_S A H0 H locs) (hA : ∀ x, H0.size ≤ x → A x) (hn : ¬ n < 0) (hN : n.toNatClampNeg = N) (hbytes : N * componentBytes .long ≤ 536870912) (hcs : cells + 1 ≤ R.cells ∧ slots + N ≤ R.slots) (hdg : decode cc pc = .ok (.newarray .long, 2))
    (kk : ∀ (a : Nat) (H1 : Heap), va_P D vwCl (ws ++ [(a, .inl (q 1, N, .inr (.inl (fun _ => 0))))]) H1 → va_D A (ws ++ [(a, .inl (q 1, N, .inr (.inl (fun _ => 0))))]) → va_S A H0 H1 locs → W p l e R s m args below meth c H1 locs (cells + 1) (slots + N) Q (F0 m (pc + 2) ls (.ref a :: rest))) : W p l e R s m args below meth c H locs cells slots Q (F0 m pc ls (.int n :: rest)) := by
  refine va_newa (atype := .long) (ty := .long) (a0 := (N, .inr (.inl (fun _ => 0)))) hx hb (ht _ hw) rfl hK hP hD hS hA (fun _ => rfl) hn hN hbytes hcs.1 hcs.2 hdg (fun a cA H1 hK1 hP1 hD1 hS1 => ?_)
  have h1 : s.vm.findClass ("[" ++ FieldType.long.toString) = some cA := (hK1.2 5 (cA, .long) rfl).2
  have h2 : s.vm.findClass ("[" ++ FieldType.long.toString) = some (q 1) := (hK.2 1 (q 1, .long) rfl).2
  have h3 : cA = q 1 := Option.some.inj (h1.symm.trans h2)
  subst h3
  exact kk a H1 hP1 hD1 hS1
theorem nw_b {n : Int32} {N : Nat} (hx : p.tables.exec = Jvm.exec) (hb : c.code = cc) (ht : ∀ w ∈ w_all, w.before args s = true) (hw : Cond.arrayClass .byte ∈ w_all) (hK : va_K D vwCl (ty_l q) s) (hP : va_P D vwCl ws H) (hD : va_D A ws) (hS : va_S A H0 H locs) (hA : ∀ x, H0.size ≤ x → A x) (hn : ¬ n < 0) (hN : n.toNatClampNeg = N) (hbytes : N * componentBytes .byte ≤ 536870912) (hcs : cells + 1 ≤ R.cells ∧ slots + N ≤ R.slots) (hdg : decode cc pc = .ok (.newarray .byte, 2))
    (kk : ∀ (a : Nat) (H1 : Heap), va_P D vwCl (ws ++ [(a, .inl (q 2, N, .inl (fun _ => 0)))]) H1 → va_D A (ws ++ [(a, .inl (q 2, N, .inl (fun _ => 0)))]) → va_S A H0 H1 locs → W p l e R s m args below meth c H1 locs (cells + 1) (slots + N) Q (F0 m (pc + 2) ls (.ref a :: rest))) : W p l e R s m args below meth c H locs cells slots Q (F0 m pc ls (.int n :: rest)) := by
  refine va_newa (atype := .byte) (ty := .byte) (a0 := (N, .inl (fun _ => 0))) hx hb (ht _ hw) rfl hK hP hD hS hA (fun _ => rfl) hn hN hbytes hcs.1 hcs.2 hdg (fun a cA H1 hK1 hP1 hD1 hS1 => ?_)
  have h1 : s.vm.findClass ("[" ++ FieldType.byte.toString) = some cA := (hK1.2 5 (cA, .byte) rfl).2
  have h2 : s.vm.findClass ("[" ++ FieldType.byte.toString) = some (q 2) := (hK.2 2 (q 2, .byte) rfl).2
  have h3 : cA = q 2 := Option.some.inj (h1.symm.trans h2)
  subst h3
  exact kk a H1 hP1 hD1 hS1
theorem nw_z {n : Int32} {N : Nat} (hx : p.tables.exec = Jvm.exec) (hb : c.code = cc) (ht : ∀ w ∈ w_all, w.before args s = true) (hw : Cond.arrayClass .boolean ∈ w_all) (hK : va_K D vwCl (ty_l q) s) (hP : va_P D vwCl ws H) (hD : va_D A ws) (hS : va_S A H0 H locs) (hA : ∀ x, H0.size ≤ x → A x) (hn : ¬ n < 0) (hN : n.toNatClampNeg = N) (hbytes : N * componentBytes .boolean ≤ 536870912) (hcs : cells + 1 ≤ R.cells ∧ slots + N ≤ R.slots) (hdg : decode cc pc = .ok (.newarray .boolean, 2))
    (kk : ∀ (a : Nat) (H1 : Heap), va_P D vwCl (ws ++ [(a, .inl (q 3, N, .inl (fun _ => 0)))]) H1 → va_D A (ws ++ [(a, .inl (q 3, N, .inl (fun _ => 0)))]) → va_S A H0 H1 locs → W p l e R s m args below meth c H1 locs (cells + 1) (slots + N) Q (F0 m (pc + 2) ls (.ref a :: rest))) : W p l e R s m args below meth c H locs cells slots Q (F0 m pc ls (.int n :: rest)) := by
  refine va_newa (atype := .boolean) (ty := .boolean) (a0 := (N, .inl (fun _ => 0))) hx hb (ht _ hw) rfl hK hP hD hS hA (fun _ => rfl) hn hN hbytes hcs.1 hcs.2 hdg (fun a cA H1 hK1 hP1 hD1 hS1 => ?_)
  have h1 : s.vm.findClass ("[" ++ FieldType.boolean.toString) = some cA := (hK1.2 5 (cA, .boolean) rfl).2
  have h2 : s.vm.findClass ("[" ++ FieldType.boolean.toString) = some (q 3) := (hK.2 3 (q 3, .boolean) rfl).2
  have h3 : cA = q 3 := Option.some.inj (h1.symm.trans h2)
  subst h3
  exact kk a H1 hP1 hD1 hS1
theorem ab_null (k : W p l e R s m args below meth c H locs cells slots Q (F0 m pc ls (.null :: rest))) : W p l e R s m args below meth c H locs cells slots Q (F0 m pc ls (va_rf none :: rest)) := k
theorem mt_lret {S : Type} {post : Int64 → S → Prop} {w2 : S → va_W} {sz : Nat} {v : Int64} (u : S) (hx : p.tables.exec = Jvm.exec) (hb : c.code = cc) (hr : meth.sig.returnType = some .long) (hk : meth.locks = false) (hp : post v u) (hP : va_P D vwCl (w2 u) H) (hD : va_D (va_A ws sz) (w2 u)) (hS : va_S (va_A ws sz) s.heap H locs) (hdg : decode cc pc = .ok (.lreturn, 1)) : W p l e R s m args below meth c H locs cells slots (MQ below (va_Ql post (mt_B D ws sz w2) (va_A ws sz)) args s cells slots (va_A ws sz)) (F0 m pc ls [.long v]) := W.lret hx hb hr (fun _ ht _ => ⟨⟨v, u, rfl, hp, by rw [ht]; exact hP, hD⟩, hS.F ht⟩) hS.2.2 hdg hk
theorem mt_gol {S : Type} {post : Int64 → S → Prop} {w2 : S → va_W} {wr : va_W} {mc ms : Nat} {av : Array Value} (hr : va_Run p l e R s m args below meth c H locs cells slots mc ms (F0 m pc ls st) rest (va_Ql post (mt_B D wc H.size w2) (va_A wc H.size) av) (va_A wc H.size)) (hP : va_P D vwCl ws H) (hD : va_D A ws) (hS : va_S A H0 H locs) (hA : ∀ x : Nat, H0.size ≤ x → A x) (isC isR : List Nat) (hC : isC.map (fun i => ws[i]?) = wc.map some) (hR : isR.map (fun i => ws[i]?) = wr.map some) (hn : va_nd isR = true) (hdis : ∀ i ∈ isR, i ∉ isC)
    (kk : ∀ (r : Int64) (u : S) (H1 : Heap) (locs1 : List Loc), post r u → va_P D vwCl (wr ++ w2 u) H1 → va_D A (wr ++ w2 u) → va_S A H0 H1 locs1 → W p l e R s m args below meth c H1 locs1 (cells + mc) (slots + ms) Q (F0 m (pc + 3) ls (.long r :: rest))) : W p l e R s m args below meth c H locs cells slots Q (F0 m pc ls st) := by
  have hF := va_free (wc := wc) hD hS hA isC hC
  refine va_calll hr hS (fun x _ h => hF x h) hF (fun r u t H1 locs1 ht hvm hw hB hz1 hk1 hS1 => ?_)
  obtain ⟨hP1, hD1⟩ := hB
  rw [ht] at hP1
  obtain ⟨hP2, hD2⟩ := va_join hP hD isC isR hC hR hn hdis hk1 hF hP1 hD1
  exact kk r u H1 locs1 hw hP2 hD2 hS1
end BB
theorem upd_0 (i : Nat) : upd (fun _ => (0 : Int32)) i 0 = fun _ => 0 := by
  funext j
  simp [upd]
theorem vp_updL_0 (i : Nat) : vp_updL (fun _ => (0 : Int64)) i 0 = fun _ => 0 := by
  funext j
  simp [vp_updL]
theorem in_X0 : ∀ w ∈ u_ws RX0 TX0 18, w ∈ w_all := by decide +kernel
theorem in_X2 : ∀ w ∈ u_ws RX2 TX2 12, w ∈ w_all := by decide +kernel
theorem in_X3 : ∀ w ∈ u_ws RX3 TX3 3, w ∈ w_all := by decide +kernel
theorem in_X4 : ∀ w ∈ u_ws RX4 TX4 10, w ∈ w_all := by decide +kernel
theorem in_X5 : ∀ w ∈ u_ws RX5 TX5 7, w ∈ w_all := by decide +kernel
theorem in_X6 : ∀ w ∈ u_ws RX6 TX6 7, w ∈ w_all := by decide +kernel
theorem in_X7 : ∀ w ∈ u_ws RX7 TX7 23, w ∈ w_all := by decide +kernel
theorem nf_X0 : ∀ j, j < 18 → defaultValue (tyX0 j) = vp_V [.int 0, .int 0, .int 0, .int 0, .int 0, .int 0, .null, .null, .null, .null, .null, .null, .null, .null, .null, .null, .null, .null] j := by
  intro j hj
  rcases (show j = 0 ∨ j = 1 ∨ j = 2 ∨ j = 3 ∨ j = 4 ∨ j = 5 ∨ j = 6 ∨ j = 7 ∨ j = 8 ∨ j = 9 ∨ j = 10 ∨ j = 11 ∨ j = 12 ∨ j = 13 ∨ j = 14 ∨ j = 15 ∨ j = 16 ∨ j = 17 by omega) with rfl | rfl | rfl | rfl | rfl | rfl | rfl | rfl | rfl | rfl | rfl | rfl | rfl | rfl | rfl | rfl | rfl | rfl <;> rfl
theorem nf_X2 : ∀ j, j < 12 → defaultValue (tyX2 j) = vp_V [.null, .null, .null, .int 0, .int 0, .int 0, .int 0, .int 0, .int 0, .int 0, .int 0, .int 0] j := by
  intro j hj
  rcases (show j = 0 ∨ j = 1 ∨ j = 2 ∨ j = 3 ∨ j = 4 ∨ j = 5 ∨ j = 6 ∨ j = 7 ∨ j = 8 ∨ j = 9 ∨ j = 10 ∨ j = 11 by omega) with rfl | rfl | rfl | rfl | rfl | rfl | rfl | rfl | rfl | rfl | rfl | rfl <;> rfl
theorem nf_X3 : ∀ j, j < 3 → defaultValue (tyX3 j) = vp_V [.null, .int 0, .int 0] j := by
  intro j hj
  rcases (show j = 0 ∨ j = 1 ∨ j = 2 by omega) with rfl | rfl | rfl <;> rfl
theorem nf_X4 : ∀ j, j < 10 → defaultValue (tyX4 j) = vp_V [.null, .null, .null, .null, .null, .null, .null, .int 0, .int 0, .int 0] j := by
  intro j hj
  rcases (show j = 0 ∨ j = 1 ∨ j = 2 ∨ j = 3 ∨ j = 4 ∨ j = 5 ∨ j = 6 ∨ j = 7 ∨ j = 8 ∨ j = 9 by omega) with rfl | rfl | rfl | rfl | rfl | rfl | rfl | rfl | rfl | rfl <;> rfl
theorem nf_X5 : ∀ j, j < 7 → defaultValue (tyX5 j) = vp_V [.null, .int 0, .int 0, .int 0, .int 0, .int 0, .int 0] j := by
  intro j hj
  rcases (show j = 0 ∨ j = 1 ∨ j = 2 ∨ j = 3 ∨ j = 4 ∨ j = 5 ∨ j = 6 by omega) with rfl | rfl | rfl | rfl | rfl | rfl | rfl <;> rfl
theorem nf_X6 : ∀ j, j < 7 → defaultValue (tyX6 j) = vp_V [.null, .null, .null, .null, .null, .null, .null] j := by
  intro j hj
  rcases (show j = 0 ∨ j = 1 ∨ j = 2 ∨ j = 3 ∨ j = 4 ∨ j = 5 ∨ j = 6 by omega) with rfl | rfl | rfl | rfl | rfl | rfl | rfl <;> rfl
theorem nf_X7 : ∀ j, j < 23 → defaultValue (tyX7 j) = vp_V [.null, .null, .int 0, .null, .null, .null, .long 0, .int 0, .int 0, .null, .int 0, .int 0, .null, .int 0, .int 0, .int 0, .int 0, .int 0, .int 0, .int 0, .int 0, .int 0, .int 0] j := by
  intro j hj
  rcases (show j = 0 ∨ j = 1 ∨ j = 2 ∨ j = 3 ∨ j = 4 ∨ j = 5 ∨ j = 6 ∨ j = 7 ∨ j = 8 ∨ j = 9 ∨ j = 10 ∨ j = 11 ∨ j = 12 ∨ j = 13 ∨ j = 14 ∨ j = 15 ∨ j = 16 ∨ j = 17 ∨ j = 18 ∨ j = 19 ∨ j = 20 ∨ j = 21 ∨ j = 22 by omega) with rfl | rfl | rfl | rfl | rfl | rfl | rfl | rfl | rfl | rfl | rfl | rfl | rfl | rfl | rfl | rfl | rfl | rfl | rfl | rfl | rfl | rfl | rfl <;> rfl
theorem in_c {i : Int32} {n : Nat} (h : decide (¬ (i < 0 ∨ n ≤ i.toNatClampNeg)) = true) : vp_in i n := show ¬ (i < 0 ∨ n ≤ i.toNatClampNeg) from of_decide_eq_true h
theorem nI_inc (i : Nat) : nI i + Int32.ofInt 1 = nI (i + 1) := (nI_succ i).symm
theorem in_r {i : Int32} {n : Nat} (h1 : 0 ≤ i.toInt) (h2 : i.toInt < (n : Int)) : vp_in i n := by
  intro h
  have h3 : i.toNatClampNeg = i.toInt.toNat := rfl
  rcases h with h | h
  · have := Int32.lt_iff_toInt_lt.mp h
    simp at this
    omega
  · omega
theorem va_cpy_0 {α : Type} {z : α} (a b n : Nat) : va_cpy (fun _ => z) (fun _ => z) a b n = fun _ => z := by
  funext j
  simp [va_cpy]
section BQ
variable {p : Program} {l : Launch} {e : Env} {R : Room} {s : State} {m : MethodId} {args : Array Value} {below : List Frame} {meth : Method} {c : Code} {H : Heap} {locs : List Loc} {cells slots : Nat} {Q : State → Prop}
variable {cc : ByteArray} {pc : Nat} {ls : Array Slot} {rest : List Value} {D : va_G} {q : Nat → ClassId} {ws : va_W} {A : Nat → Prop} {H0 : Heap}
theorem nw_q {n : Int32} {N : Nat} {own : String} {index : Nat} (hx : p.tables.exec = Jvm.exec) (hb : c.code = cc) (hown : s.vm.findClass own = some m.cls) (hcl : (Cond.classLink own index "FlapBoard$Board").before args s = true) (hQ : kn D q s) (hP : va_P D vwCl ws H) (hD : va_D A ws) (hS : va_S A H0 H locs) (hA : ∀ x, H0.size ≤ x → A x) (hn : ¬ n < 0) (hN : n.toNatClampNeg = N) (hbytes : N * 4 ≤ 536870912) (hcs : cells + 1 ≤ R.cells ∧ slots + N ≤ R.slots) (hdg : decode cc pc = .ok (.anewarray index, 3))
    (kk : ∀ (a : Nat) (H1 : Heap), va_P D vwCl (ws ++ [(a, .inl (q 4, N, .inr (.inr (.inr (.inr (fun _ => none))))))]) H1 → va_D A (ws ++ [(a, .inl (q 4, N, .inr (.inr (.inr (.inr (fun _ => none))))))]) → va_S A H0 H1 locs → W p l e R s m args below meth c H1 locs (cells + 1) (slots + N) Q (F0 m (pc + 3) ls (.ref a :: rest))) : W p l e R s m args below meth c H locs cells slots Q (F0 m pc ls (.int n :: rest)) := by
  refine va_newq hx hb hown hcl hQ.2.1 hQ.1 hP hD hS hA hn hN hbytes hcs.1 hcs.2 hdg (fun a cA H1 hK1 hP1 hD1 hS1 => ?_)
  obtain ⟨_, _, _, _, _, h1⟩ := (hK1.2 5 (cA, .object "FlapBoard$Board") rfl).2
  obtain ⟨_, _, _, _, _, h2⟩ := (hQ.1.2 4 (q 4, .object "FlapBoard$Board") rfl).2
  have h3 : cA = q 4 := Option.some.inj (h1.symm.trans h2)
  subst h3
  exact kk a H1 hP1 hD1 hS1
end BQ
theorem nI_plus (a b : Nat) : nI a + nI b = nI (a + b) := by
  show Int32.ofNat a + Int32.ofNat b = Int32.ofNat (a + b)
  simp
section B2
variable {p : Program} {l : Launch} {e : Env} {R : Room} {s : State} {m : MethodId} {args : Array Value} {below : List Frame} {meth : Method} {c : Code} {H : Heap} {locs : List Loc} {cells slots : Nat} {Q : State → Prop}
variable {cc : ByteArray} {pc nL : Nat} {ls : Array Slot} {rest st : List Value} {D : va_G} {q : Nat → ClassId} {ws wc : va_W} {A : Nat → Prop} {H0 : Heap}
theorem rd_vret2 {post : Prop} (hx : p.tables.exec = Jvm.exec) (hb : c.code = cc) (hr : meth.sig.returnType = none) (hk : meth.locks = false) (hp : post) (hdg : decode cc pc = .ok (.return_, 1)) : W p l e R s m args below meth c s.heap [] 0 0 (MQ below (va_Sv (fun _ => post)) args s 0 0 (fun _ => False)) (F0 m pc ls []) := W.vret hx hb hr (fun _ ht _ => ⟨rfl, hp, ht⟩) (fun _ h => by cases h) hdg hk
theorem rd_wSN {y : MethodName} {bytes : ByteArray} {maxL n : Nat} {ret : Option FieldType} {rm : Room} {own host : String} {index : Nat} {As : List Value} {Qc : Array Value → State → Outcome → State → Prop}
    (hx : p.tables.exec = Jvm.exec) (hb : c.code = cc) (hml : c.maxLocals = nL) (hown : s.vm.findClass own = some m.cls) (ht : ∀ w ∈ w_all, w.before args s = true) (hM : Met l y (Cond.code y bytes maxL ret :: w_all) rm (rd_P D q As wc) Qc 0 0 (fun _ => False)) (wy : wd_S y bytes maxL ret n) (hl : va_Nw (.methodLinkNest own index y host) s) (hQ : kn D q s) (hV : sv q A s s.heap) (hS : va_S A s.heap H locs) (hP : va_P D vwCl wc H) (hn : As.length = n) (hz : ls.size = nL) (hst : st = As.reverse ++ rest) (hW : (rest.map fun v => v.category).sum ≤ 8) (hdg : decode cc pc = .ok (.invokestatic index, 3)) (hR : rm.frames + 1 ≤ R.frames ∧ 8 + (maxL + 11) + rm.locals ≤ R.locals ∧ rm.cells = 0 ∧ rm.slots = 0) (hcs : cells ≤ R.cells ∧ slots ≤ R.slots) :
    CallRun p l e R s m args below meth c H locs cells slots 0 0 (F0 m pc ls st) rest (Qc As.toArray) (fun _ => False) := by
  obtain ⟨w1, w3, w4, w5, w6, w7⟩ := wy
  have hG : GoodIn w_all (Cond.code y bytes maxL ret :: w_all) := w_gin (fun w h => (List.mem_cons.mp h).elim (fun e => e ▸ w4) id)
  have hr := va_runSN (l := l) (R := R) (p := p) (e := e) (below := below) (meth := meth) (locs := locs) (cells := cells) (slots := slots) (g := F0 m pc ls st) (rest := rest) (H := H) ⟨hx, hb, hml, hown, ht⟩ hM ⟨va_cnB n ht hG rfl hR.2.2.1 hR.2.2.2 hl (ht _ w3) ⟨w5, w6, w7⟩ ⟨hR.1, hR.2.1⟩, ht _ w1, trivial⟩ ⟨rd_blind, fun U hU hW => ⟨rfl, by rw [hU]; exact hP, kn_warm hW hQ, by rw [hU]; exact sv_moved hW.alike (sv_narrow (sv_kept hV hS.2.1) (fun _ h => h.elim))⟩⟩ rfl hn hz hst (lv_room hW) hdg ⟨hcs.1, hcs.2⟩
  intro T hT X
  obtain ⟨v, st0, t, T', L, h0, X', hL, e1, e2, hq, hs⟩ := hr T hT X
  exact ⟨v, st0, t, T', L, h0, X', hL, e1, hq, hs⟩
end B2
