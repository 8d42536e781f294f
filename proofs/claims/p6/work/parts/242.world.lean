/-! The class's whole world as blocks; what holds of it between two calls; the same of the reference. -/
def cb_l (q : Nat → ClassId) (a0 a1 a2 a3 a4 a5 : Nat → Nat) (p8 s8 p9 : Nat) (AA BB : Nat → Nat → Nat) (s1 : Tp) (s2 s3 : Bd) (s4 : Mo) (s5 : Pg) (s6 : Pa) (z7 : Nat → Option Bd) : List va_W := [fo_w (a0 0) (a1 0) (a2 0) (a3 0) (a4 0) (a5 0) p8 s8, tp_w a1 q s1, bd_w a2 q s2, bd_w a3 q s3, mo_w a4 q s4, pg_w a5 q s5, pa_o p8 p9 s6, pa_r p9 q 10 AA s6.2, ps_w q 10 AA s6.2, pa_r s8 q 2 BB z7, ps_w q 2 BB z7]
def bx (s : Bd) : Prop := ∃ R W, bi R W s
def cs_ok (N : Int) (s1 : Tp) (s2 s3 : Bd) (s4 : Mo) (s5 : Pg) (s6 : Pa) (z7 : Nat → Option Bd) : Prop := tz N s1 ∧ bx s2 ∧ bx s3 ∧ mo s4 ∧ pz s5 ∧ pa s6 ∧ (∀ k, ob (z7 k))
def c_I (N : Int) (q : Nat → ClassId) (h : Nat) (w : va_W) : Prop := ∃ (a0 a1 a2 a3 a4 a5 : Nat → Nat) (p8 s8 p9 : Nat) (AA BB : Nat → Nat → Nat) (s1 : Tp) (s2 s3 : Bd) (s4 : Mo) (s5 : Pg) (s6 : Pa) (z7 : Nat → Option Bd), h = a0 0 ∧ w = (cb_l q a0 a1 a2 a3 a4 a5 p8 s8 p9 AA BB s1 s2 s3 s4 s5 s6 z7).flatten ∧ cs_ok N s1 s2 s3 s4 s5 s6 z7
def m_I (N : Int) (q : Nat → ClassId) (h : Nat) (w : va_W) : Prop := ∃ (b : Nat → Nat) (s : Md) (R W D : Int), h = b 0 ∧ w = md_v b q s ∧ mb N R W D s ∧ (R ≤ 0 ∨ 0 < D)
/-- a method that writes, seen from its object: what it needs of the world, what it leaves -/
def un_i (l : Launch) (D : va_G) (q : Nat → ClassId) (ci : Nat) (y : MethodName) (bytes : ByteArray) (maxL : Nat) (ret : Option FieldType) (rm : Room) (h : Nat) (As : List Value) (mc ms : Nat) (w : va_W) (J : Int32 → va_W → Prop) : Prop := ∀ sz : Nat, ∃ (S : Type) (wc wr : va_W) (w2 : S → va_W) (post : Int32 → S → Prop) (fs : List Value), Met l y (Cond.code y bytes maxL ret :: w_all) rm (mt_P D q (.ref h :: As) wc sz) (va_Qi post (mt_B D wc sz w2) (va_A wc sz)) mc ms (va_A wc sz) ∧ wc[0]? = some (h, .inr (ci, fs)) ∧ List.Perm w (wc ++ wr) ∧ (∀ r u, post r u → ∃ w3, J r w3 ∧ List.Perm (w2 u ++ wr) w3)
def un_l (l : Launch) (D : va_G) (q : Nat → ClassId) (ci : Nat) (y : MethodName) (bytes : ByteArray) (maxL : Nat) (ret : Option FieldType) (rm : Room) (h : Nat) (As : List Value) (mc ms : Nat) (w : va_W) (J : Int64 → va_W → Prop) : Prop := ∀ sz : Nat, ∃ (S : Type) (wc wr : va_W) (w2 : S → va_W) (post : Int64 → S → Prop) (fs : List Value), Met l y (Cond.code y bytes maxL ret :: w_all) rm (mt_P D q (.ref h :: As) wc sz) (va_Ql post (mt_B D wc sz w2) (va_A wc sz)) mc ms (va_A wc sz) ∧ wc[0]? = some (h, .inr (ci, fs)) ∧ List.Perm w (wc ++ wr) ∧ (∀ r u, post r u → ∃ w3, J r w3 ∧ List.Perm (w2 u ++ wr) w3)
/-- one that only reads -/
def un_ri (l : Launch) (D : va_G) (q : Nat → ClassId) (ci : Nat) (y : MethodName) (bytes : ByteArray) (maxL : Nat) (ret : Option FieldType) (rm : Room) (h : Nat) (As : List Value) (w : va_W) (J : Int32 → Prop) : Prop := ∃ (wc wr : va_W) (fs : List Value), Met l y (Cond.code y bytes maxL ret :: w_all) rm (rd_P D q (.ref h :: As) wc) (vp_Si J) 0 0 (fun _ => False) ∧ wc[0]? = some (h, .inr (ci, fs)) ∧ List.Perm w (wc ++ wr)
def un_rl (l : Launch) (D : va_G) (q : Nat → ClassId) (ci : Nat) (y : MethodName) (bytes : ByteArray) (maxL : Nat) (ret : Option FieldType) (rm : Room) (h : Nat) (As : List Value) (w : va_W) (J : Int64 → Prop) : Prop := ∃ (wc wr : va_W) (fs : List Value), Met l y (Cond.code y bytes maxL ret :: w_all) rm (rd_P D q (.ref h :: As) wc) (vp_Sl J) 0 0 (fun _ => False) ∧ wc[0]? = some (h, .inr (ci, fs)) ∧ List.Perm w (wc ++ wr)
section UN
variable {p : Program} {l : Launch} {e : Env} {R : Room} {s : State} {m : MethodId} {args : Array Value} {below : List Frame} {meth : Method} {c : Code} {H : Heap} {locs : List Loc} {cells slots : Nat} {Q : State → Prop}
variable {cc : ByteArray} {pc nL : Nat} {ls : Array Slot} {rest st : List Value} {D : va_G} {q : Nat → ClassId} {A : Nat → Prop}
variable {y : MethodName} {bytes : ByteArray} {maxL n mc ms : Nat} {ret : Option FieldType} {rm : Room} {own : String} {index : Nat} {As : List Value} {b ci : Nat} {T : u_T} {N : Nat}
/-- the law's row for such a call: our world is the object's beside another's -/
theorem un_goi {w wo ws : va_W} {J : Int32 → va_W → Prop} (hU : un_i l D q ci y bytes maxL ret rm b As mc ms w J) (hws : List.Perm ws (w ++ wo)) (hx : p.tables.exec = Jvm.exec) (hb : c.code = cc) (hml : c.maxLocals = nL) (hown : s.vm.findClass own = some m.cls) (ht : ∀ w ∈ w_all, w.before args s = true) (wy : wd_V y bytes maxL ret n) (hl : Cond.methodLink own index y ∈ w_all) (hQ : kn D q s) (hV : sv q A s s.heap) (hS : va_S A s.heap H locs) (hA : ∀ x : Nat, s.heap.size ≤ x → A x) (hP : va_P D vwCl ws H) (hD : va_D A ws) (hc : vwCl[ci]? = some (y.cls, T, N)) (hn : As.length = n) (hz : ls.size = nL) (hst : st = As.reverse ++ .ref b :: rest) (hW : (rest.map fun v => v.category).sum ≤ 8) (hdg : decode cc pc = .ok (.invokevirtual index, 3)) (hR : rm.frames + 1 ≤ R.frames ∧ 8 + (maxL + 11) + rm.locals ≤ R.locals ∧ rm.cells = mc ∧ rm.slots = ms) (hcs : cells + mc ≤ R.cells ∧ slots + ms ≤ R.slots)
    (kk : ∀ (r : Int32) (w3 : va_W) (H1 : Heap) (locs1 : List Loc), J r w3 → va_P D vwCl (w3 ++ wo) H1 → va_D A (w3 ++ wo) → va_S A s.heap H1 locs1 → W p l e R s m args below meth c H1 locs1 (cells + mc) (slots + ms) Q (F0 m (pc + 3) ls (.int r :: rest))) : W p l e R s m args below meth c H locs cells slots Q (F0 m pc ls st) := by
  obtain ⟨S, wc, wr, w2, post, fs, hM, he, hp, hj⟩ := hU H.size
  have hp2 : List.Perm ws (wc ++ (wr ++ wo)) := hws.trans (by
    rw [← List.append_assoc]
    exact hp.append_right wo)
  refine mt_goiR hp2 (mt_wV hx hb hml hown ht hM wy hl hQ hV hS hA (pp_l hp2 hP) (pp_d hp2 hD) he hc hn hz hst hW hdg hR hcs) hP hD hS hA (fun r u H1 locs1 hw hP1 hD1 hS1 => ?_)
  obtain ⟨w3, hJ, hq⟩ := hj r u hw
  have hp3 : List.Perm (w2 u ++ (wr ++ wo)) (w3 ++ wo) := by
    rw [← List.append_assoc]
    exact hq.append_right wo
  exact kk r w3 H1 locs1 hJ (vp_perm hp3 hP1) (vd_perm hp3 hD1) hS1
theorem un_gol {w wo ws : va_W} {J : Int64 → va_W → Prop} (hU : un_l l D q ci y bytes maxL ret rm b As mc ms w J) (hws : List.Perm ws (w ++ wo)) (hx : p.tables.exec = Jvm.exec) (hb : c.code = cc) (hml : c.maxLocals = nL) (hown : s.vm.findClass own = some m.cls) (ht : ∀ w ∈ w_all, w.before args s = true) (wy : wd_V y bytes maxL ret n) (hl : Cond.methodLink own index y ∈ w_all) (hQ : kn D q s) (hV : sv q A s s.heap) (hS : va_S A s.heap H locs) (hA : ∀ x : Nat, s.heap.size ≤ x → A x) (hP : va_P D vwCl ws H) (hD : va_D A ws) (hc : vwCl[ci]? = some (y.cls, T, N)) (hn : As.length = n) (hz : ls.size = nL) (hst : st = As.reverse ++ .ref b :: rest) (hW : (rest.map fun v => v.category).sum ≤ 8) (hdg : decode cc pc = .ok (.invokevirtual index, 3)) (hR : rm.frames + 1 ≤ R.frames ∧ 8 + (maxL + 11) + rm.locals ≤ R.locals ∧ rm.cells = mc ∧ rm.slots = ms) (hcs : cells + mc ≤ R.cells ∧ slots + ms ≤ R.slots)
    (kk : ∀ (r : Int64) (w3 : va_W) (H1 : Heap) (locs1 : List Loc), J r w3 → va_P D vwCl (w3 ++ wo) H1 → va_D A (w3 ++ wo) → va_S A s.heap H1 locs1 → W p l e R s m args below meth c H1 locs1 (cells + mc) (slots + ms) Q (F0 m (pc + 3) ls (.long r :: rest))) : W p l e R s m args below meth c H locs cells slots Q (F0 m pc ls st) := by
  obtain ⟨S, wc, wr, w2, post, fs, hM, he, hp, hj⟩ := hU H.size
  have hp2 : List.Perm ws (wc ++ (wr ++ wo)) := hws.trans (by
    rw [← List.append_assoc]
    exact hp.append_right wo)
  refine mt_golR hp2 (mt_wV hx hb hml hown ht hM wy hl hQ hV hS hA (pp_l hp2 hP) (pp_d hp2 hD) he hc hn hz hst hW hdg hR hcs) hP hD hS hA (fun r u H1 locs1 hw hP1 hD1 hS1 => ?_)
  obtain ⟨w3, hJ, hq⟩ := hj r u hw
  have hp3 : List.Perm (w2 u ++ (wr ++ wo)) (w3 ++ wo) := by
    rw [← List.append_assoc]
    exact hq.append_right wo
  exact kk r w3 H1 locs1 hJ (vp_perm hp3 hP1) (vd_perm hp3 hD1) hS1
theorem un_gori {w wo ws : va_W} {J : Int32 → Prop} (hU : un_ri l D q ci y bytes maxL ret rm b As w J) (hws : List.Perm ws (w ++ wo)) (hx : p.tables.exec = Jvm.exec) (hb : c.code = cc) (hml : c.maxLocals = nL) (hown : s.vm.findClass own = some m.cls) (ht : ∀ w ∈ w_all, w.before args s = true) (wy : wd_V y bytes maxL ret n) (hl : Cond.methodLink own index y ∈ w_all) (hQ : kn D q s) (hV : sv q A s s.heap) (hS : va_S A s.heap H locs) (hP : va_P D vwCl ws H) (hc : vwCl[ci]? = some (y.cls, T, N)) (hn : As.length = n) (hz : ls.size = nL) (hst : st = As.reverse ++ .ref b :: rest) (hW : (rest.map fun v => v.category).sum ≤ 8) (hdg : decode cc pc = .ok (.invokevirtual index, 3)) (hR : rm.frames + 1 ≤ R.frames ∧ 8 + (maxL + 11) + rm.locals ≤ R.locals ∧ rm.cells = 0 ∧ rm.slots = 0) (hcs : cells ≤ R.cells ∧ slots ≤ R.slots)
    (kk : ∀ (r : Int32), J r → W p l e R s m args below meth c H locs cells slots Q (F0 m (pc + 3) ls (.int r :: rest))) : W p l e R s m args below meth c H locs cells slots Q (F0 m pc ls st) := by
  obtain ⟨wc, wr, fs, hM, he, hp⟩ := hU
  have hp2 : List.Perm ws (wc ++ (wr ++ wo)) := hws.trans (by
    rw [← List.append_assoc]
    exact hp.append_right wo)
  exact vp_callSi (rd_wV hx hb hml hown ht hM wy hl hQ hV hS (pp_l hp2 hP) he hc hn hz hst hW hdg hR hcs) (fun r h => kk r h)
theorem un_gorl {w wo ws : va_W} {J : Int64 → Prop} (hU : un_rl l D q ci y bytes maxL ret rm b As w J) (hws : List.Perm ws (w ++ wo)) (hx : p.tables.exec = Jvm.exec) (hb : c.code = cc) (hml : c.maxLocals = nL) (hown : s.vm.findClass own = some m.cls) (ht : ∀ w ∈ w_all, w.before args s = true) (wy : wd_V y bytes maxL ret n) (hl : Cond.methodLink own index y ∈ w_all) (hQ : kn D q s) (hV : sv q A s s.heap) (hS : va_S A s.heap H locs) (hP : va_P D vwCl ws H) (hc : vwCl[ci]? = some (y.cls, T, N)) (hn : As.length = n) (hz : ls.size = nL) (hst : st = As.reverse ++ .ref b :: rest) (hW : (rest.map fun v => v.category).sum ≤ 8) (hdg : decode cc pc = .ok (.invokevirtual index, 3)) (hR : rm.frames + 1 ≤ R.frames ∧ 8 + (maxL + 11) + rm.locals ≤ R.locals ∧ rm.cells = 0 ∧ rm.slots = 0) (hcs : cells ≤ R.cells ∧ slots ≤ R.slots)
    (kk : ∀ (r : Int64), J r → W p l e R s m args below meth c H locs cells slots Q (F0 m (pc + 3) ls (.long r :: rest))) : W p l e R s m args below meth c H locs cells slots Q (F0 m pc ls st) := by
  obtain ⟨wc, wr, fs, hM, he, hp⟩ := hU
  have hp2 : List.Perm ws (wc ++ (wr ++ wo)) := hws.trans (by
    rw [← List.append_assoc]
    exact hp.append_right wo)
  exact vp_callSl (rd_wV hx hb hml hown ht hM wy hl hQ hV hS (pp_l hp2 hP) he hc hn hz hst hW hdg hR hcs) (fun r h => kk r h)
end UN
