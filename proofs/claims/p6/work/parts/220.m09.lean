theorem wq_X0_unlikeEntries {post : Int32 → Prop} {s0 : Bd} {x1 : Int32} {R W : Int} (h1280 : bi (R) (W) s0) (k : ∀ (r : Int32), post r) : wp_X0_unlikeEntries post s0 x1 := by
  unfold wp_X0_unlikeEntries
  have := h1280.1
  have := h1280.2.1
  have := h1280.2.2.1
  have := h1280.2.2.2.1
  have := h1280.2.2.2.2.2.2.2.2.2
  refine wq_X0_entryStart h1280 (fun r_1 q1281 => ?_)
  refine wq_X0_flapsOn h1280 (fun r_3 q1282 q1283 => ?_)
  have p1284 : 0 ≤ (0 : Int32).toInt ∧ (0 : Int32).toInt ≤ (r_3).toInt ∧ (r_3).toInt ≤ 40 := by (have := li_0; omega)
  obtain ⟨f1285, g1286⟩ := fu_e 50
  have p1287 : (r_3).toInt - (0 : Int32).toInt < (f1285 : Int) := by (have := li_0; omega)
  refine ⟨f1285, wq_X0_unlikeEntries_L18 h1280 (fun z1 z2 z3 z4 z5 q1288 => ?_) f1285 _ _ _ _ _ p1284 p1287⟩
  exact k _
theorem wq_X0_journeyChange_L60 {s0 : Bd} {post : Int32 → Prop} {e185 : Int32 → Int32 → Int32 → Int32 → Int32 → Int32 → Int32 → Int32 → Prop} {R W : Int} (h1289 : bi (R) (W) s0) (ke185 : ∀ (z1 : Int32) (z2 : Int32) (z3 : Int32) (z4 : Int32) (z5 : Int32) (z6 : Int32) (z7 : Int32) (z8 : Int32), 0 ≤ (z8).toInt ∧ (z8).toInt ≤ (z5).toInt ∧ (z5).toInt ≤ 40 → e185 z1 z2 z3 z4 z5 z6 z7 z8) : ∀ (n : Nat) (z1 : Int32) (z2 : Int32) (z3 : Int32) (z4 : Int32) (z5 : Int32) (z6 : Int32) (z7 : Int32) (z8 : Int32), 0 ≤ (z8).toInt ∧ (z8).toInt ≤ (z5).toInt ∧ (z5).toInt ≤ 40 → (z5).toInt - (z8).toInt < (n : Int) → wp_X0_journeyChange_L60 s0 post e185 n z1 z2 z3 z4 z5 z6 z7 z8 := by
  have := h1289.1
  have := h1289.2.1
  have := h1289.2.2.1
  have := h1289.2.2.2.1
  have := h1289.2.2.2.2.2.2.2.2.2
  intro n
  induction n with
  | zero =>
    intro z1 z2 z3 z4 z5 z6 z7 z8 i1290 i1291
    exfalso
    omega
  | succ n ih =>
    intro z1 z2 z3 z4 z5 z6 z7 z8 i1290 i1291
    unfold wp_X0_journeyChange_L60
    refine ⟨fun c1292 => ?_, fun c1293 => ?_⟩
    · replace c1292 := q_le c1292
      have p1294 : 0 ≤ (z8).toInt ∧ (z8).toInt ≤ (z5).toInt ∧ (z5).toInt ≤ 40 := by omega
      exact ke185 _ _ _ _ _ _ _ _ p1294
    · replace c1293 := q_nle c1293
      refine ⟨fun c1295 => ?_, fun c1296 => ?_⟩
      · replace c1295 := q_eq c1295
        have e1297 := tq_addr li_1 z8
        try rw [Int.emod_eq_of_lt (show 0 ≤ (z8).toInt + 1 + 2147483648 by omega) (show (z8).toInt + 1 + 2147483648 < 4294967296 by omega)] at e1297
        have p1298 : 0 ≤ (z8 + 1).toInt ∧ (z8 + 1).toInt ≤ (z5).toInt ∧ (z5).toInt ≤ 40 := by omega
        have p1299 : (z5).toInt - (z8 + 1).toInt < ((n : Nat) : Int) := by (omega)
        exact ih _ _ _ _ _ _ _ _ p1298 p1299
      · replace c1296 := q_neq c1296
        refine ⟨fun c1300 => ?_, fun c1301 => ?_⟩
        · replace c1300 := q_eq c1300
          have e1302 := tq_addr li_1 z8
          try rw [Int.emod_eq_of_lt (show 0 ≤ (z8).toInt + 1 + 2147483648 by omega) (show (z8).toInt + 1 + 2147483648 < 4294967296 by omega)] at e1302
          have p1303 : 0 ≤ (z8 + 1).toInt ∧ (z8 + 1).toInt ≤ (z5).toInt ∧ (z5).toInt ≤ 40 := by omega
          have p1304 : (z5).toInt - (z8 + 1).toInt < ((n : Nat) : Int) := by (omega)
          exact ih _ _ _ _ _ _ _ _ p1303 p1304
        · replace c1301 := q_neq c1301
          refine wq_X0_entryAt h1289 (fun r_16 => ?_)
          refine wq_X0_entryAt h1289 (fun r_18 => ?_)
          refine wq_X0_entryAt h1289 (fun r_20 => ?_)
          refine wq_X0_entryAt h1289 (fun r_22 => ?_)
          refine wq_X6_onFrom (fun r_24 => ?_)
          refine wq_X6_onFrom (fun r_26 => ?_)
          refine wq_X6_onFrom (fun r_28 => ?_)
          refine wq_X6_onFrom (fun r_30 => ?_)
          have e1305 := tq_addr li_1 z8
          try rw [Int.emod_eq_of_lt (show 0 ≤ (z8).toInt + 1 + 2147483648 by omega) (show (z8).toInt + 1 + 2147483648 < 4294967296 by omega)] at e1305
          have p1306 : 0 ≤ (z8 + 1).toInt ∧ (z8 + 1).toInt ≤ (z5).toInt ∧ (z5).toInt ≤ 40 := by omega
          have p1307 : (z5).toInt - (z8 + 1).toInt < ((n : Nat) : Int) := by (omega)
          exact ih _ _ _ _ _ _ _ _ p1306 p1307
theorem wq_X0_journeyChange {post : Int32 → Prop} {s0 : Bd} {x1 : Int32} {x2 : Int32} {x3 : Int32} {R W : Int} (h1308 : bi (R) (W) s0) (k : ∀ (r : Int32), post r) : wp_X0_journeyChange post s0 x1 x2 x3 := by
  unfold wp_X0_journeyChange
  have := h1308.1
  have := h1308.2.1
  have := h1308.2.2.1
  have := h1308.2.2.2.1
  have := h1308.2.2.2.2.2.2.2.2.2
  refine wq_X0_entryStart h1308 (fun r_1 q1309 => ?_)
  refine wq_X0_flapsOn h1308 (fun r_3 q1310 q1311 => ?_)
  refine wq_X0_entryAt h1308 (fun r_5 => ?_)
  refine wq_X0_entryAt h1308 (fun r_7 => ?_)
  refine wq_X6_onFrom (fun r_9 => ?_)
  refine wq_X6_onFrom (fun r_11 => ?_)
  have p1312 : 0 ≤ (0 : Int32).toInt ∧ (0 : Int32).toInt ≤ (r_3).toInt ∧ (r_3).toInt ≤ 40 := by (have := li_0; omega)
  obtain ⟨f1313, g1314⟩ := fu_e 50
  have p1315 : (r_3).toInt - (0 : Int32).toInt < (f1313 : Int) := by (have := li_0; omega)
  refine ⟨f1313, wq_X0_journeyChange_L60 h1308 (fun z1 z2 z3 z4 z5 z6 z7 z8 q1316 => ?_) f1313 _ _ _ _ _ _ _ _ p1312 p1315⟩
  exact k _

def ln (i : Nat) : Int := ((st_len.getD i 0 : Nat) : Int)
theorem st_le (i : Nat) : st_len.getD i 0 ≤ 6 := by
  by_cases h : i < 12
  · exact (show ∀ i, i < 12 → st_len.getD i 0 ≤ 6 by decide) i h
  · have e : st_len.getD i 0 = 0 := by
      rw [List.getD_eq_getElem?_getD, List.getElem?_eq_none (by show 12 ≤ i; omega)]
      rfl
    omega
theorem st_lt {i : Nat} (h : 0 < st_len.getD i 0) : i < 12 := by
  by_cases g : i < 12
  · exact g
  · have e : st_len.getD i 0 = 0 := by
      rw [List.getD_eq_getElem?_getD, List.getElem?_eq_none (by show 12 ≤ i; omega)]
      rfl
    omega
def chv (i j : Nat) : Int32 := UInt32.toInt32 (Int32.toUInt32 (((st_byt.getD i []).getD j 0) &&& 255) % 65536)
theorem ch_ok : ∀ i, i < 12 → ∀ j, j < 6 → (chv i j).toUInt32.toUInt16.toUInt32.toInt32 = chv i j := by decide +kernel
theorem wq_J0_length_8abf5 {post : Int32 → Prop} {i0 : Nat} (k : ∀ (r : Int32), r.toInt = ln i0 → 0 ≤ r.toInt ∧ r.toInt ≤ 9 → post r) : wp_J0_length_8abf5 post i0 := by
  unfold wp_J0_length_8abf5 wp_J0_coder_7d493
  show post (Int32.ofNat (st_len.getD i0 0) >>> ((0 : Int32) &&& 31))
  have e : ∀ n, n < 7 → (Int32.ofNat n) >>> ((0 : Int32) &&& 31) = Int32.ofNat n := by decide
  have l := st_le i0
  rw [e _ (by omega)]
  have t := tq_ofn (n := st_len.getD i0 0) (by omega)
  exact k _ t (by omega)
theorem wq_J0_charAt_5068e {post : Int32 → Prop} {i0 : Nat} {x1 : Int32} (h : 0 ≤ x1.toInt ∧ x1.toInt < ln i0) (k : ∀ r : Int32, post r) : wp_J0_charAt_5068e post i0 x1 := by
  unfold wp_J0_charAt_5068e wp_J0_isLatin1_aae02
  have l := st_le i0
  have h2 : x1.toInt < ((st_len.getD i0 0 : Nat) : Int) := h.2
  have t := tq_ofn (n := st_len.getD i0 0) (by omega)
  have g : i0 < 12 := st_lt (by omega)
  have hj : Int32.toNatClampNeg x1 < 6 := by
    rw [tn_i]
    omega
  have ch : narrow .char (.int (chv i0 (Int32.toNatClampNeg x1))) = .int (chv i0 (Int32.toNatClampNeg x1)) := congrArg (fun z => (.int z : Value)) (ch_ok i0 g _ hj)
  refine ⟨fun c => absurd c (by decide), fun _ => ?_⟩
  unfold wp_J1_charAt_3b067 wp_J0_checkIndex_df160 wp_J3_checkIndex_8e157_n
  refine ⟨fun c => ?_, fun c => ⟨fun d => ?_, fun d => ?_⟩⟩
  · have := q_lt c
    have e0 : (0 : Int32).toInt = 0 := rfl
    exfalso
    omega
  · exact ⟨vi h.1 h2, ch, ch, k _⟩
  · have := q_nlt d
    exfalso
    omega
def tp_b (s : Tp) : Int32 := if s.1 0 ≤ s.1 1 then -1 else s.2 (Int32.toNatClampNeg (s.1 1))
theorem wq_X5_peek_L0 {post : Int32 → Tp → Prop} {e38 : Tp → Prop} {N : Int} {s : Tp} (hs : tj N s) (ke : ∀ t : Tp, t.2 = s.2 → (∀ k, k ≠ 1 → t.1 k = s.1 k) → (s.1 1).toInt ≤ (t.1 1).toInt → (t.1 1).toInt ≤ N → (¬ tp_b s = 32 → t = s) → ¬ tp_b t = 32 → e38 t) : ∀ (n : Nat) (t : Tp), t.2 = s.2 → (∀ k, k ≠ 1 → t.1 k = s.1 k) → (s.1 1).toInt ≤ (t.1 1).toInt → (t.1 1).toInt ≤ N → (¬ tp_b s = 32 → t = s) → N - (t.1 1).toInt < (n : Int) → wp_X5_peek_L0 post e38 n t := by
  intro n
  induction n with
  | zero =>
    intro t _ _ _ _ _ hm
    exfalso
    omega
  | succ n ih =>
    intro t a1 a2 a3 a4 a5 hm
    unfold wp_X5_peek_L0
    have z0 : t.1 0 = s.1 0 := a2 0 (by decide)
    have s0 := hs.1
    have s1 := hs.2.1
    have s2 := hs.2.2
    refine ⟨fun c => ke t a1 a2 a3 a4 a5 ?_, fun c => ?_⟩
    · unfold tp_b
      rw [if_pos c]
      decide
    · have c2 := q_nle c
      rw [z0] at c2
      refine ⟨vi (by omega) (by omega), fun d => ke t a1 a2 a3 a4 a5 ?_, fun d => ?_⟩
      · unfold tp_b
        rw [if_neg c]
        exact d
      · have e1 : (1 : Int32).toInt = 1 := rfl
        have e2 := tq_add (t.1 1) 1
        have tt : tp_b t = 32 := by
          unfold tp_b
          rw [if_neg c]
          exact d
        refine ih _ a1 (fun k hk => ?_) ?_ ?_ (fun g => ?_) ?_
        · show (if k = 1 then _ else t.1 k) = _
          rw [if_neg hk]
          exact a2 k hk
        · show (s.1 1).toInt ≤ (t.1 1 + 1).toInt
          omega
        · show (t.1 1 + 1).toInt ≤ N
          omega
        · exfalso
          rw [a5 g] at tt
          exact g tt
        · show N - (t.1 1 + 1).toInt < (n : Int)
          omega
theorem wq_X5_peek {post : Int32 → Tp → Prop} {s0 : Tp} {N : Int} (h : tj N s0) (k : ∀ (r : Int32) (u : Tp), tj N u → (s0.1 1).toInt ≤ (u.1 1).toInt → (u.1 2).toInt = (s0.1 2).toInt → (u.1 3).toInt = (s0.1 3).toInt → (u.1 4).toInt = (s0.1 4).toInt → (u.1 5).toInt = (s0.1 5).toInt → (r.toInt = -1 ∨ (u.1 1).toInt < N) → r = tp_b u → ¬ tp_b u = 32 → (¬ tp_b s0 = 32 → u = s0) → post r u) : wp_X5_peek post s0 := by
  unfold wp_X5_peek
  have s1 := h.2.1
  have s2 := h.2.2
  obtain ⟨nf, hf⟩ := fu_e 500
  refine ⟨nf, wq_X5_peek_L0 h (fun t a1 a2 a3 a4 a5 a6 => ?_) nf s0 rfl (fun _ _ => rfl) (Int.le_refl _) s1.2.1 (fun _ => rfl) (by omega)⟩
  have z0 : t.1 0 = s0.1 0 := a2 0 (by decide)
  have z2 : t.1 2 = s0.1 2 := a2 2 (by decide)
  have z3 : t.1 3 = s0.1 3 := a2 3 (by decide)
  have z4 : t.1 4 = s0.1 4 := a2 4 (by decide)
  have z5 : t.1 5 = s0.1 5 := a2 5 (by decide)
  have n0 := h.1
  have tt : tj N t := ⟨by rw [z0]; exact n0, by rw [z2, z5]; omega, s2⟩
  have m1 : (-1 : Int32).toInt = -1 := rfl
  refine ⟨fun c => ?_, fun c => ?_⟩
  · exact k _ t tt a3 (by rw [z2]) (by rw [z3]) (by rw [z4]) (by rw [z5]) (Or.inl m1) (by unfold tp_b; rw [if_pos c]) a6 a5
  · have c2 := q_nle c
    rw [z0] at c2
    exact ⟨vi (by omega) (by omega), k _ t tt a3 (by rw [z2]) (by rw [z3]) (by rw [z4]) (by rw [z5]) (Or.inr (by omega)) (by unfold tp_b; rw [if_neg c]) a6 a5⟩

theorem wq_X5_startReading {post : Tp → Prop} {s0 : Tp} {N : Int} (h1317 : tz (N) s0) (k : ∀ (u : Tp), tj (N) u → (u.1 5).toInt = 0 → post u) : wp_X5_startReading post s0 := by
  unfold wp_X5_startReading
  have := h1317.1
  have := h1317.2
  have p1318 : (s0.1 0).toInt = N := by omega
  have p1319 : 0 ≤ (0 : Int32).toInt ∧ (0 : Int32).toInt ≤ N ∧ 0 ≤ (0 : Int32).toInt ∧ (0 : Int32).toInt ≤ (0 : Int32).toInt ∧ 0 ≤ (0 : Int32).toInt ∧ (0 : Int32).toInt ≤ 5000 := by (have := li_0; omega)
  have p1320 : 0 ≤ N ∧ N ≤ 400 := by omega
  have B1321 : tj (N) ((va_up (va_up (va_up (va_up (va_up s0.1 1 0) 2 0) 3 0) 4 0) 5 0), s0.2) := ⟨p1318, p1319, p1320⟩
  have p1322 : (0 : Int32).toInt = 0 := by (have := li_0; omega)
  exact k _ B1321 p1322
theorem wq_X5_isRead_L20 {s0 : Tp} {i1 : Nat} {post : Int32 → Prop} {e55 : Int32 → Prop} {N : Int} (h1323 : tj (N) s0) (ke55 : ∀ (z2 : Int32), 0 ≤ (z2).toInt ∧ (z2).toInt ≤ ln i1 → ln i1 = (s0.1 1).toInt - (s0.1 2).toInt → e55 z2) (k : ∀ (r : Int32), (r).toInt = 0 ∨ (r).toInt = 1 → post r) : ∀ (n : Nat) (z2 : Int32), 0 ≤ (z2).toInt ∧ (z2).toInt ≤ ln i1 → ln i1 = (s0.1 1).toInt - (s0.1 2).toInt → ln i1 - (z2).toInt < (n : Int) → wp_X5_isRead_L20 s0 i1 post e55 n z2 := by
  have := h1323.1
  have := h1323.2.1
  have := h1323.2.2
  intro n
  induction n with
  | zero =>
    intro z2 i1324 i1325 i1326
    exfalso
    omega
  | succ n ih =>
    intro z2 i1324 i1325 i1326
    unfold wp_X5_isRead_L20
    refine wq_J0_length_8abf5 (fun r_4 q1327 q1328 => ?_)
    refine ⟨fun c1329 => ?_, fun c1330 => ?_⟩
    · replace c1329 := q_le c1329
      have p1331 : 0 ≤ (z2).toInt ∧ (z2).toInt ≤ ln i1 := by omega
      have p1332 : ln i1 = (s0.1 1).toInt - (s0.1 2).toInt := by omega
      exact ke55 _ p1331 p1332
    · replace c1330 := q_nle c1330
      have p1333 : 0 ≤ (z2).toInt ∧ (z2).toInt < ln i1 := by omega
      refine wq_J0_charAt_5068e p1333 (fun r_7 => ?_)
      have e1334 := tq_add (s0.1 2) z2
      try rw [Int.emod_eq_of_lt (show 0 ≤ (s0.1 2).toInt + (z2).toInt + 2147483648 by omega) (show (s0.1 2).toInt + (z2).toInt + 2147483648 < 4294967296 by omega)] at e1334
      have v1335 : vp_in ((s0.1 2) + z2) 400 := vi (by omega) (by omega)
      refine ⟨v1335, ?_⟩
      refine ⟨fun c1336 => ?_, fun c1337 => ?_⟩
      · replace c1336 := q_eq c1336
        have e1338 := tq_addr li_1 z2
        try rw [Int.emod_eq_of_lt (show 0 ≤ (z2).toInt + 1 + 2147483648 by omega) (show (z2).toInt + 1 + 2147483648 < 4294967296 by omega)] at e1338
        have p1339 : 0 ≤ (z2 + 1).toInt ∧ (z2 + 1).toInt ≤ ln i1 := by omega
        have p1340 : ln i1 = (s0.1 1).toInt - (s0.1 2).toInt := by omega
        have p1341 : ln i1 - (z2 + 1).toInt < ((n : Nat) : Int) := by (omega)
        exact ih _ p1339 p1340 p1341
      · replace c1337 := q_neq c1337
        have p1342 : (0 : Int32).toInt = 0 ∨ (0 : Int32).toInt = 1 := by (have := li_0; omega)
        exact k _ p1342
theorem wq_X5_isRead {post : Int32 → Prop} {s0 : Tp} {i1 : Nat} {N : Int} (h1343 : tj (N) s0) (k : ∀ (r : Int32), (r).toInt = 0 ∨ (r).toInt = 1 → post r) : wp_X5_isRead post s0 i1 := by
  unfold wp_X5_isRead
  have := h1343.1
  have := h1343.2.1
  have := h1343.2.2
  refine wq_J0_length_8abf5 (fun r_1 q1344 q1345 => ?_)
  refine ⟨fun c1346 => ?_, fun c1347 => ?_⟩
  · replace c1346 := q_eq c1346
    have e1348 := tq_sub (s0.1 1) (s0.1 2)
    try rw [Int.emod_eq_of_lt (show 0 ≤ (s0.1 1).toInt - (s0.1 2).toInt + 2147483648 by omega) (show (s0.1 1).toInt - (s0.1 2).toInt + 2147483648 < 4294967296 by omega)] at e1348
    have p1349 : 0 ≤ (0 : Int32).toInt ∧ (0 : Int32).toInt ≤ ln i1 := by (have := li_0; omega)
    have p1350 : ln i1 = (s0.1 1).toInt - (s0.1 2).toInt := by omega
    obtain ⟨f1351, g1352⟩ := fu_e 50
    have p1353 : ln i1 - (0 : Int32).toInt < (f1351 : Int) := by (have := li_0; omega)
    refine ⟨f1351, wq_X5_isRead_L20 h1343 (fun z2 q1354 q1355 => ?_) k f1351 _ p1349 p1350 p1353⟩
    have p1356 : (1 : Int32).toInt = 0 ∨ (1 : Int32).toInt = 1 := by (have := li_1; omega)
    exact k _ p1356
  · replace c1347 := q_neq c1347
    have e1357 := tq_sub (s0.1 1) (s0.1 2)
    try rw [Int.emod_eq_of_lt (show 0 ≤ (s0.1 1).toInt - (s0.1 2).toInt + 2147483648 by omega) (show (s0.1 1).toInt - (s0.1 2).toInt + 2147483648 < 4294967296 by omega)] at e1357
    have p1358 : (0 : Int32).toInt = 0 ∨ (0 : Int32).toInt = 1 := by (have := li_0; omega)
    exact k _ p1358
theorem wq_X5_wordRead {post : Int32 → Prop} {s0 : Tp} {N : Int} (h1359 : tj (N) s0) (k : ∀ (r : Int32), 0 ≤ (r).toInt ∧ (r).toInt ≤ 12 → post r) : wp_X5_wordRead post s0 := by
  unfold wp_X5_wordRead
  have := h1359.1
  have := h1359.2.1
  have := h1359.2.2
  refine wq_X5_isRead h1359 (fun r_1 q1360 => ?_)
  refine ⟨fun c1361 => ?_, fun c1362 => ?_⟩
  · replace c1361 := q_eq c1361
    rw [li_0] at c1361
    refine wq_X5_isRead h1359 (fun r_4 q1363 => ?_)
    refine ⟨fun c1364 => ?_, fun c1365 => ?_⟩
    · replace c1364 := q_eq c1364
      rw [li_0] at c1364
      refine wq_X5_isRead h1359 (fun r_7 q1366 => ?_)
      refine ⟨fun c1367 => ?_, fun c1368 => ?_⟩
      · replace c1367 := q_eq c1367
        rw [li_0] at c1367
        refine wq_X5_isRead h1359 (fun r_10 q1369 => ?_)
        refine ⟨fun c1370 => ?_, fun c1371 => ?_⟩
        · replace c1370 := q_eq c1370
          rw [li_0] at c1370
          refine wq_X5_isRead h1359 (fun r_13 q1372 => ?_)
          refine ⟨fun c1373 => ?_, fun c1374 => ?_⟩
          · replace c1373 := q_eq c1373
            rw [li_0] at c1373
            refine wq_X5_isRead h1359 (fun r_16 q1375 => ?_)
            refine ⟨fun c1376 => ?_, fun c1377 => ?_⟩
            · replace c1376 := q_eq c1376
              rw [li_0] at c1376
              refine wq_X5_isRead h1359 (fun r_19 q1378 => ?_)
              refine ⟨fun c1379 => ?_, fun c1380 => ?_⟩
              · replace c1379 := q_eq c1379
                rw [li_0] at c1379
                refine wq_X5_isRead h1359 (fun r_22 q1381 => ?_)
                refine ⟨fun c1382 => ?_, fun c1383 => ?_⟩
                · replace c1382 := q_eq c1382
                  rw [li_0] at c1382
                  refine wq_X5_isRead h1359 (fun r_25 q1384 => ?_)
                  refine ⟨fun c1385 => ?_, fun c1386 => ?_⟩
                  · replace c1385 := q_eq c1385
                    rw [li_0] at c1385
                    refine wq_X5_isRead h1359 (fun r_28 q1387 => ?_)
                    refine ⟨fun c1388 => ?_, fun c1389 => ?_⟩
                    · replace c1388 := q_eq c1388
                      rw [li_0] at c1388
                      refine wq_X5_isRead h1359 (fun r_31 q1390 => ?_)
                      refine ⟨fun c1391 => ?_, fun c1392 => ?_⟩
                      · replace c1391 := q_eq c1391
                        rw [li_0] at c1391
                        refine wq_X5_isRead h1359 (fun r_34 q1393 => ?_)
                        refine ⟨fun c1394 => ?_, fun c1395 => ?_⟩
                        · replace c1394 := q_eq c1394
                          rw [li_0] at c1394
                          have p1396 : 0 ≤ (0 : Int32).toInt ∧ (0 : Int32).toInt ≤ 12 := by (have := li_0; omega)
                          exact k _ p1396
                        · replace c1395 := q_neq c1395
                          rw [li_0] at c1395
                          have p1397 : 0 ≤ (12 : Int32).toInt ∧ (12 : Int32).toInt ≤ 12 := by (have := li_12; omega)
                          exact k _ p1397
                      · replace c1392 := q_neq c1392
                        rw [li_0] at c1392
                        have p1398 : 0 ≤ (11 : Int32).toInt ∧ (11 : Int32).toInt ≤ 12 := by (have := li_11; omega)
                        exact k _ p1398
                    · replace c1389 := q_neq c1389
                      rw [li_0] at c1389
                      have p1399 : 0 ≤ (10 : Int32).toInt ∧ (10 : Int32).toInt ≤ 12 := by (have := li_10; omega)
                      exact k _ p1399
                  · replace c1386 := q_neq c1386
                    rw [li_0] at c1386
                    have p1400 : 0 ≤ (9 : Int32).toInt ∧ (9 : Int32).toInt ≤ 12 := by (have := li_9; omega)
                    exact k _ p1400
                · replace c1383 := q_neq c1383
                  rw [li_0] at c1383
                  have p1401 : 0 ≤ (8 : Int32).toInt ∧ (8 : Int32).toInt ≤ 12 := by (have := li_8; omega)
                  exact k _ p1401
              · replace c1380 := q_neq c1380
                rw [li_0] at c1380
                have p1402 : 0 ≤ (7 : Int32).toInt ∧ (7 : Int32).toInt ≤ 12 := by (have := li_7; omega)
                exact k _ p1402
            · replace c1377 := q_neq c1377
              rw [li_0] at c1377
              have p1403 : 0 ≤ (6 : Int32).toInt ∧ (6 : Int32).toInt ≤ 12 := by (have := li_6; omega)
              exact k _ p1403
          · replace c1374 := q_neq c1374
            rw [li_0] at c1374
            have p1404 : 0 ≤ (5 : Int32).toInt ∧ (5 : Int32).toInt ≤ 12 := by (have := li_5; omega)
            exact k _ p1404
        · replace c1371 := q_neq c1371
          rw [li_0] at c1371
          have p1405 : 0 ≤ (4 : Int32).toInt ∧ (4 : Int32).toInt ≤ 12 := by (have := li_4; omega)
          exact k _ p1405
      · replace c1368 := q_neq c1368
        rw [li_0] at c1368
        have p1406 : 0 ≤ (3 : Int32).toInt ∧ (3 : Int32).toInt ≤ 12 := by (have := li_3; omega)
        exact k _ p1406
    · replace c1365 := q_neq c1365
      rw [li_0] at c1365
      have p1407 : 0 ≤ (2 : Int32).toInt ∧ (2 : Int32).toInt ≤ 12 := by (have := li_2; omega)
      exact k _ p1407
  · replace c1362 := q_neq c1362
    rw [li_0] at c1362
    have p1408 : 0 ≤ (1 : Int32).toInt ∧ (1 : Int32).toInt ≤ 12 := by (have := li_1; omega)
    exact k _ p1408
theorem wq_X5_takeWord_L13 {post : Int32 → Tp → Prop} {e63 : Tp → Prop} {N F G : Int} (ke63 : ∀ (t0 : Tp), tj (N) t0 → (t0.1 5).toInt = F → G ≤ (t0.1 1).toInt → e63 t0) : ∀ (n : Nat) (t0 : Tp), tj (N) t0 → (t0.1 5).toInt = F → G ≤ (t0.1 1).toInt → N - (t0.1 1).toInt < (n : Int) → wp_X5_takeWord_L13 post e63 n t0 := by
  intro n
  induction n with
  | zero =>
    intro t0 i1409 i1410 i1411 i1412
    have := i1409.1
    have := i1409.2.1
    have := i1409.2.2
    exfalso
    omega
  | succ n ih =>
    intro t0 i1409 i1410 i1411 i1412
    unfold wp_X5_takeWord_L13
    have := i1409.1
    have := i1409.2.1
    have := i1409.2.2
    refine ⟨fun c1413 => ?_, fun c1414 => ?_⟩
    · replace c1413 := q_le c1413
      have p1415 : (t0.1 5).toInt = F := by omega
      have p1416 : G ≤ (t0.1 1).toInt := by omega
      exact ke63 _ i1409 p1415 p1416
    · replace c1414 := q_nle c1414
      have p1417 : (t0.1 0).toInt = N := by omega
      have p1418 : 0 ≤ N ∧ N ≤ 400 := by omega
      have B1419 : tz (N) t0 := ⟨p1417, p1418⟩
      refine wq_X5_byteAt B1419 (fun r_4 => ?_)
      refine ⟨fun c1420 => ?_, fun c1421 => ?_⟩
      · replace c1420 := q_lt c1420
        rw [li_97] at c1420
        have p1422 : (t0.1 5).toInt = F := by omega
        have p1423 : G ≤ (t0.1 1).toInt := by omega
        exact ke63 _ i1409 p1422 p1423
      · replace c1421 := q_nlt c1421
        rw [li_97] at c1421
        refine wq_X5_byteAt B1419 (fun r_7 => ?_)
        refine ⟨fun c1424 => ?_, fun c1425 => ?_⟩
        · replace c1424 := q_lt c1424
          rw [li_122] at c1424
          have p1426 : (t0.1 5).toInt = F := by omega
          have p1427 : G ≤ (t0.1 1).toInt := by omega
          exact ke63 _ i1409 p1426 p1427
        · replace c1425 := q_nlt c1425
          rw [li_122] at c1425
          have p1428 : (t0.1 0).toInt = N := by omega
          have e1429 := tq_addr li_1 (t0.1 1)
          try rw [Int.emod_eq_of_lt (show 0 ≤ (t0.1 1).toInt + 1 + 2147483648 by omega) (show (t0.1 1).toInt + 1 + 2147483648 < 4294967296 by omega)] at e1429
          have p1430 : 0 ≤ ((t0.1 1) + 1).toInt ∧ ((t0.1 1) + 1).toInt ≤ N ∧ 0 ≤ (t0.1 2).toInt ∧ (t0.1 2).toInt ≤ ((t0.1 1) + 1).toInt ∧ 0 ≤ (t0.1 5).toInt ∧ (t0.1 5).toInt ≤ 5000 := by omega
          have p1431 : 0 ≤ N ∧ N ≤ 400 := by omega
          have B1432 : tj (N) ((va_up t0.1 1 ((t0.1 1) + 1)), t0.2) := ⟨p1428, p1430, p1431⟩
          have p1433 : (t0.1 5).toInt = F := by omega
          have p1434 : G ≤ ((t0.1 1) + 1).toInt := by omega
          have p1435 : N - ((t0.1 1) + 1).toInt < ((n : Nat) : Int) := by (omega)
          exact ih _ B1432 p1433 p1434 p1435
theorem wq_X5_takeWord {post : Int32 → Tp → Prop} {s0 : Tp} {N : Int} (h1436 : tj (N) s0) (k : ∀ (r : Int32) (u : Tp), tj (N) u → (u.1 5).toInt = (s0.1 5).toInt → 0 ≤ (r).toInt ∧ (r).toInt ≤ 12 → (s0.1 1).toInt ≤ (u.1 1).toInt → post r u) : wp_X5_takeWord post s0 := by
  unfold wp_X5_takeWord
  have := h1436.1
  have := h1436.2.1
  have := h1436.2.2
  refine wq_X5_peek h1436 (fun r_1 u_2 q1437 q1438 q1439 q1440 q1441 q1442 q1443 q1444 q1445 q1446 => ?_)
  have := q1437.1
  have := q1437.2.1
  have p1447 : (u_2.1 0).toInt = N := by omega
  have p1448 : 0 ≤ (u_2.1 1).toInt ∧ (u_2.1 1).toInt ≤ N ∧ 0 ≤ (u_2.1 1).toInt ∧ (u_2.1 1).toInt ≤ (u_2.1 1).toInt ∧ 0 ≤ (u_2.1 5).toInt ∧ (u_2.1 5).toInt ≤ 5000 := by omega
  have p1449 : 0 ≤ N ∧ N ≤ 400 := by omega
  have B1450 : tj (N) ((va_up u_2.1 2 (u_2.1 1)), u_2.2) := ⟨p1447, p1448, p1449⟩
  have p1451 : (u_2.1 5).toInt = ((u_2.1 5).toInt) := by omega
  have p1452 : ((u_2.1 1).toInt) ≤ (u_2.1 1).toInt := by omega
  obtain ⟨f1453, g1454⟩ := fu_e 500
  have p1455 : N - (u_2.1 1).toInt < (f1453 : Int) := by (omega)
  refine ⟨f1453, wq_X5_takeWord_L13 (fun t0 q1456 q1457 q1458 => ?_) f1453 _ B1450 p1451 p1452 p1455⟩
  have := q1456.1
  have := q1456.2.1
  refine wq_X5_wordRead q1456 (fun r_10 q1459 => ?_)
  have p1460 : (t0.1 5).toInt = (s0.1 5).toInt := by omega
  have p1461 : 0 ≤ (r_10).toInt ∧ (r_10).toInt ≤ 12 := by omega
  have p1462 : (s0.1 1).toInt ≤ (t0.1 1).toInt := by omega
  exact k _ _ q1456 p1460 p1461 p1462
