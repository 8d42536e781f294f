-- ===== PART A: goes FIRST, ahead of the names: the tables' words, and 'selects' of the private methods out of them =====
theorem w_s1 : ∀ w ∈ tables_1_1, w ∈ tables_1 := fun w h => List.mem_append_left _ h
theorem w_s2 : ∀ w ∈ tables_1_2, w ∈ tables_1 := fun w h => List.mem_append_right _ (List.mem_append_left _ h)
theorem w_s3 : ∀ w ∈ tables_1_3, w ∈ tables_1 := fun w h => List.mem_append_right _ (List.mem_append_right _ (List.mem_append_left _ h))
theorem w_s4 : ∀ w ∈ tables_1_4, w ∈ tables_1 := fun w h => List.mem_append_right _ (List.mem_append_right _ (List.mem_append_right _ (List.mem_append_left _ h)))
theorem w_s5 : ∀ w ∈ tables_1_5, w ∈ tables_1 := fun w h => List.mem_append_right _ (List.mem_append_right _ (List.mem_append_right _ (List.mem_append_right _ (List.mem_append_left _ h))))
theorem w_s6 : ∀ w ∈ tables_1_6, w ∈ tables_1 := fun w h => List.mem_append_right _ (List.mem_append_right _ (List.mem_append_right _ (List.mem_append_right _ (List.mem_append_right _ (List.mem_append_left _ h)))))
theorem w_s7 : ∀ w ∈ tables_1_7, w ∈ tables_1 := fun w h => List.mem_append_right _ (List.mem_append_right _ (List.mem_append_right _ (List.mem_append_right _ (List.mem_append_right _ (List.mem_append_right _ (h))))))
/-- a private method of a class that the tables say can be made, by its rows of tables_1 -/
def lw_okq (q : MethodName × Nat) : Prop := (q.1.cls ≠ "java/lang/invoke/MethodHandle" ∧ q.1.cls ≠ "java/lang/invoke/VarHandle") ∧ Cond.instantiable q.1.cls q.2 ∈ tables_1 ∧ Cond.privateMethod q.1 ∈ tables_1 ∧ Cond.instanceMethod q.1 ∈ tables_1
theorem lw_p0 : lw_okq (⟨"FlapBoard$Tape", "wordRead", "()I"⟩, 7) := ⟨⟨by decide +kernel, by decide +kernel⟩, w_s1 _ (List.mem_of_getElem? (i := 26) rfl), w_s2 _ (List.mem_of_getElem? (i := 91) rfl), w_s2 _ (List.mem_of_getElem? (i := 92) rfl)⟩
theorem lw_p1 : lw_okq (⟨"FlapBoard$Tape", "isRead", "(Ljava/lang/String;)Z"⟩, 7) := ⟨⟨by decide +kernel, by decide +kernel⟩, w_s1 _ (List.mem_of_getElem? (i := 26) rfl), w_s2 _ (List.mem_of_getElem? (i := 96) rfl), w_s2 _ (List.mem_of_getElem? (i := 97) rfl)⟩
theorem lw_p2 : lw_okq (⟨"FlapBoard$Board", "flapFor", "(IILFlapBoard$Tape;II)I"⟩, 18) := ⟨⟨by decide +kernel, by decide +kernel⟩, w_s1 _ (List.mem_of_getElem? (i := 65) rfl), w_s2 _ (List.mem_of_getElem? (i := 232) rfl), w_s2 _ (List.mem_of_getElem? (i := 233) rfl)⟩
theorem lw_p3 : lw_okq (⟨"FlapBoard$Board", "entryStart", "(I)I"⟩, 18) := ⟨⟨by decide +kernel, by decide +kernel⟩, w_s1 _ (List.mem_of_getElem? (i := 65) rfl), w_s3 _ (List.mem_of_getElem? (i := 29) rfl), w_s3 _ (List.mem_of_getElem? (i := 30) rfl)⟩
theorem lw_p4 : lw_okq (⟨"FlapBoard", "whyNotRow", "(I)I"⟩, 7) := ⟨⟨by decide +kernel, by decide +kernel⟩, w_s1 _ (List.mem_of_getElem? (i := 18) rfl), w_s3 _ (List.mem_of_getElem? (i := 41) rfl), w_s3 _ (List.mem_of_getElem? (i := 42) rfl)⟩
theorem lw_p5 : lw_okq (⟨"FlapBoard", "isRowText", "(II)Z"⟩, 7) := ⟨⟨by decide +kernel, by decide +kernel⟩, w_s1 _ (List.mem_of_getElem? (i := 18) rfl), w_s3 _ (List.mem_of_getElem? (i := 49) rfl), w_s3 _ (List.mem_of_getElem? (i := 50) rfl)⟩
theorem lw_p6 : lw_okq (⟨"FlapBoard$Board", "wantFlap", "(II)I"⟩, 18) := ⟨⟨by decide +kernel, by decide +kernel⟩, w_s1 _ (List.mem_of_getElem? (i := 65) rfl), w_s3 _ (List.mem_of_getElem? (i := 71) rfl), w_s3 _ (List.mem_of_getElem? (i := 72) rfl)⟩
theorem lw_p7 : lw_okq (⟨"FlapBoard$Motor", "startCounting", "()V"⟩, 12) := ⟨⟨by decide +kernel, by decide +kernel⟩, w_s1 _ (List.mem_of_getElem? (i := 151) rfl), w_s3 _ (List.mem_of_getElem? (i := 109) rfl), w_s3 _ (List.mem_of_getElem? (i := 110) rfl)⟩
theorem lw_p8 : lw_okq (⟨"FlapBoard$Motor", "sortByLeft", "(LFlapBoard$Board;)I"⟩, 12) := ⟨⟨by decide +kernel, by decide +kernel⟩, w_s1 _ (List.mem_of_getElem? (i := 151) rfl), w_s3 _ (List.mem_of_getElem? (i := 117) rfl), w_s3 _ (List.mem_of_getElem? (i := 118) rfl)⟩
theorem lw_p9 : lw_okq (⟨"FlapBoard$Motor", "countTick", "(I)V"⟩, 12) := ⟨⟨by decide +kernel, by decide +kernel⟩, w_s1 _ (List.mem_of_getElem? (i := 151) rfl), w_s3 _ (List.mem_of_getElem? (i := 141) rfl), w_s3 _ (List.mem_of_getElem? (i := 142) rfl)⟩
theorem lw_p10 : lw_okq (⟨"FlapBoard", "whyNotProgram", "()I"⟩, 7) := ⟨⟨by decide +kernel, by decide +kernel⟩, w_s1 _ (List.mem_of_getElem? (i := 18) rfl), w_s3 _ (List.mem_of_getElem? (i := 209) rfl), w_s3 _ (List.mem_of_getElem? (i := 210) rfl)⟩
theorem lw_p11 : lw_okq (⟨"FlapBoard$Program", "readStep", "(ILFlapBoard$Tape;LFlapBoard$Board;)V"⟩, 10) := ⟨⟨by decide +kernel, by decide +kernel⟩, w_s1 _ (List.mem_of_getElem? (i := 202) rfl), w_s3 _ (List.mem_of_getElem? (i := 219) rfl), w_s3 _ (List.mem_of_getElem? (i := 220) rfl)⟩
theorem lw_p12 : lw_okq (⟨"FlapBoard$Program", "openTimes", "(LFlapBoard$Tape;)V"⟩, 10) := ⟨⟨by decide +kernel, by decide +kernel⟩, w_s1 _ (List.mem_of_getElem? (i := 202) rfl), w_s3 _ (List.mem_of_getElem? (i := 226) rfl), w_s3 _ (List.mem_of_getElem? (i := 227) rfl)⟩
theorem lw_p13 : lw_okq (⟨"FlapBoard$Program", "addStep", "(IIII)V"⟩, 10) := ⟨⟨by decide +kernel, by decide +kernel⟩, w_s1 _ (List.mem_of_getElem? (i := 202) rfl), w_s3 _ (List.mem_of_getElem? (i := 234) rfl), w_s3 _ (List.mem_of_getElem? (i := 235) rfl)⟩
theorem lw_p14 : lw_okq (⟨"FlapBoard$Program", "goesOn", "(LFlapBoard$Tape;)Z"⟩, 10) := ⟨⟨by decide +kernel, by decide +kernel⟩, w_s1 _ (List.mem_of_getElem? (i := 202) rfl), w_s3 _ (List.mem_of_getElem? (i := 238) rfl), w_s3 _ (List.mem_of_getElem? (i := 239) rfl)⟩
theorem lw_p15 : lw_okq (⟨"FlapBoard$Program", "closeTimes", "(I)V"⟩, 10) := ⟨⟨by decide +kernel, by decide +kernel⟩, w_s1 _ (List.mem_of_getElem? (i := 202) rfl), w_s4 _ (List.mem_of_getElem? (i := 2) rfl), w_s4 _ (List.mem_of_getElem? (i := 3) rfl)⟩
def lw_privs_1 : List (MethodName × Nat) := [(⟨"FlapBoard$Tape", "wordRead", "()I"⟩, 7), (⟨"FlapBoard$Tape", "isRead", "(Ljava/lang/String;)Z"⟩, 7), (⟨"FlapBoard$Board", "flapFor", "(IILFlapBoard$Tape;II)I"⟩, 18), (⟨"FlapBoard$Board", "entryStart", "(I)I"⟩, 18), (⟨"FlapBoard", "whyNotRow", "(I)I"⟩, 7), (⟨"FlapBoard", "isRowText", "(II)Z"⟩, 7), (⟨"FlapBoard$Board", "wantFlap", "(II)I"⟩, 18), (⟨"FlapBoard$Motor", "startCounting", "()V"⟩, 12), (⟨"FlapBoard$Motor", "sortByLeft", "(LFlapBoard$Board;)I"⟩, 12), (⟨"FlapBoard$Motor", "countTick", "(I)V"⟩, 12), (⟨"FlapBoard", "whyNotProgram", "()I"⟩, 7), (⟨"FlapBoard$Program", "readStep", "(ILFlapBoard$Tape;LFlapBoard$Board;)V"⟩, 10), (⟨"FlapBoard$Program", "openTimes", "(LFlapBoard$Tape;)V"⟩, 10), (⟨"FlapBoard$Program", "addStep", "(IIII)V"⟩, 10), (⟨"FlapBoard$Program", "goesOn", "(LFlapBoard$Tape;)Z"⟩, 10), (⟨"FlapBoard$Program", "closeTimes", "(I)V"⟩, 10)]
theorem lw_r1 : ∀ q ∈ lw_privs_1, lw_okq q := List.forall_mem_cons.mpr ⟨lw_p0, List.forall_mem_cons.mpr ⟨lw_p1, List.forall_mem_cons.mpr ⟨lw_p2, List.forall_mem_cons.mpr ⟨lw_p3, List.forall_mem_cons.mpr ⟨lw_p4, List.forall_mem_cons.mpr ⟨lw_p5, List.forall_mem_cons.mpr ⟨lw_p6, List.forall_mem_cons.mpr ⟨lw_p7, List.forall_mem_cons.mpr ⟨lw_p8, List.forall_mem_cons.mpr ⟨lw_p9, List.forall_mem_cons.mpr ⟨lw_p10, List.forall_mem_cons.mpr ⟨lw_p11, List.forall_mem_cons.mpr ⟨lw_p12, List.forall_mem_cons.mpr ⟨lw_p13, List.forall_mem_cons.mpr ⟨lw_p14, List.forall_mem_cons.mpr ⟨lw_p15, fun _ h => absurd h List.not_mem_nil⟩⟩⟩⟩⟩⟩⟩⟩⟩⟩⟩⟩⟩⟩⟩⟩
theorem lw_p16 : lw_okq (⟨"FlapBoard", "doProgram", "()I"⟩, 7) := ⟨⟨by decide +kernel, by decide +kernel⟩, w_s1 _ (List.mem_of_getElem? (i := 18) rfl), w_s4 _ (List.mem_of_getElem? (i := 10) rfl), w_s4 _ (List.mem_of_getElem? (i := 11) rfl)⟩
theorem lw_p17 : lw_okq (⟨"FlapBoard", "doStep", "(I)V"⟩, 7) := ⟨⟨by decide +kernel, by decide +kernel⟩, w_s1 _ (List.mem_of_getElem? (i := 18) rfl), w_s4 _ (List.mem_of_getElem? (i := 19) rfl), w_s4 _ (List.mem_of_getElem? (i := 20) rfl)⟩
theorem lw_p18 : lw_okq (⟨"FlapBoard", "isSuch", "(II)Z"⟩, 7) := ⟨⟨by decide +kernel, by decide +kernel⟩, w_s1 _ (List.mem_of_getElem? (i := 18) rfl), w_s4 _ (List.mem_of_getElem? (i := 132) rfl), w_s4 _ (List.mem_of_getElem? (i := 133) rfl)⟩
theorem lw_p19 : lw_okq (⟨"FlapBoard", "leastTicks", "()I"⟩, 7) := ⟨⟨by decide +kernel, by decide +kernel⟩, w_s1 _ (List.mem_of_getElem? (i := 18) rfl), w_s4 _ (List.mem_of_getElem? (i := 155) rfl), w_s4 _ (List.mem_of_getElem? (i := 156) rfl)⟩
theorem lw_p20 : lw_okq (⟨"FlapBoard", "tryToSettle", "()V"⟩, 7) := ⟨⟨by decide +kernel, by decide +kernel⟩, w_s1 _ (List.mem_of_getElem? (i := 18) rfl), w_s4 _ (List.mem_of_getElem? (i := 164) rfl), w_s4 _ (List.mem_of_getElem? (i := 165) rfl)⟩
theorem lw_p21 : lw_okq (⟨"FlapBoard$Board", "entryAt", "(IIII)I"⟩, 18) := ⟨⟨by decide +kernel, by decide +kernel⟩, w_s1 _ (List.mem_of_getElem? (i := 65) rfl), w_s4 _ (List.mem_of_getElem? (i := 224) rfl), w_s4 _ (List.mem_of_getElem? (i := 225) rfl)⟩
theorem lw_p22 : lw_okq (⟨"FlapBoard", "shelvesUsed", "()I"⟩, 7) := ⟨⟨by decide +kernel, by decide +kernel⟩, w_s1 _ (List.mem_of_getElem? (i := 18) rfl), w_s5 _ (List.mem_of_getElem? (i := 63) rfl), w_s5 _ (List.mem_of_getElem? (i := 64) rfl)⟩
theorem lw_p23 : lw_okq (⟨"FlapBoardModel", "isRow", "(I)Z"⟩, 23) := ⟨⟨by decide +kernel, by decide +kernel⟩, w_s5 _ (List.mem_of_getElem? (i := 67) rfl), w_s5 _ (List.mem_of_getElem? (i := 149) rfl), w_s5 _ (List.mem_of_getElem? (i := 150) rfl)⟩
theorem lw_p24 : lw_okq (⟨"FlapBoardModel", "rows", "()I"⟩, 23) := ⟨⟨by decide +kernel, by decide +kernel⟩, w_s5 _ (List.mem_of_getElem? (i := 67) rfl), w_s5 _ (List.mem_of_getElem? (i := 153) rfl), w_s5 _ (List.mem_of_getElem? (i := 154) rfl)⟩
theorem lw_p25 : lw_okq (⟨"FlapBoardModel", "isRowText", "(I)Z"⟩, 23) := ⟨⟨by decide +kernel, by decide +kernel⟩, w_s5 _ (List.mem_of_getElem? (i := 67) rfl), w_s5 _ (List.mem_of_getElem? (i := 160) rfl), w_s5 _ (List.mem_of_getElem? (i := 161) rfl)⟩
theorem lw_p26 : lw_okq (⟨"FlapBoardModel", "wide", "()I"⟩, 23) := ⟨⟨by decide +kernel, by decide +kernel⟩, w_s5 _ (List.mem_of_getElem? (i := 67) rfl), w_s5 _ (List.mem_of_getElem? (i := 164) rfl), w_s5 _ (List.mem_of_getElem? (i := 165) rfl)⟩
theorem lw_p27 : lw_okq (⟨"FlapBoardModel", "areSigns", "(II)Z"⟩, 23) := ⟨⟨by decide +kernel, by decide +kernel⟩, w_s5 _ (List.mem_of_getElem? (i := 67) rfl), w_s5 _ (List.mem_of_getElem? (i := 168) rfl), w_s5 _ (List.mem_of_getElem? (i := 169) rfl)⟩
theorem lw_p28 : lw_okq (⟨"FlapBoardModel", "keepsAct", "()V"⟩, 23) := ⟨⟨by decide +kernel, by decide +kernel⟩, w_s5 _ (List.mem_of_getElem? (i := 67) rfl), w_s5 _ (List.mem_of_getElem? (i := 177) rfl), w_s5 _ (List.mem_of_getElem? (i := 178) rfl)⟩
theorem lw_p29 : lw_okq (⟨"FlapBoardModel", "wantsSigns", "(IIIZ)I"⟩, 23) := ⟨⟨by decide +kernel, by decide +kernel⟩, w_s5 _ (List.mem_of_getElem? (i := 67) rfl), w_s5 _ (List.mem_of_getElem? (i := 181) rfl), w_s5 _ (List.mem_of_getElem? (i := 182) rfl)⟩
theorem lw_p30 : lw_okq (⟨"FlapBoardModel", "flapFor", "(II)I"⟩, 23) := ⟨⟨by decide +kernel, by decide +kernel⟩, w_s5 _ (List.mem_of_getElem? (i := 67) rfl), w_s5 _ (List.mem_of_getElem? (i := 185) rfl), w_s5 _ (List.mem_of_getElem? (i := 186) rfl)⟩
theorem lw_p31 : lw_okq (⟨"FlapBoardModel", "flaps", "(I)I"⟩, 23) := ⟨⟨by decide +kernel, by decide +kernel⟩, w_s5 _ (List.mem_of_getElem? (i := 67) rfl), w_s5 _ (List.mem_of_getElem? (i := 189) rfl), w_s5 _ (List.mem_of_getElem? (i := 190) rfl)⟩
def lw_privs_2 : List (MethodName × Nat) := [(⟨"FlapBoard", "doProgram", "()I"⟩, 7), (⟨"FlapBoard", "doStep", "(I)V"⟩, 7), (⟨"FlapBoard", "isSuch", "(II)Z"⟩, 7), (⟨"FlapBoard", "leastTicks", "()I"⟩, 7), (⟨"FlapBoard", "tryToSettle", "()V"⟩, 7), (⟨"FlapBoard$Board", "entryAt", "(IIII)I"⟩, 18), (⟨"FlapBoard", "shelvesUsed", "()I"⟩, 7), (⟨"FlapBoardModel", "isRow", "(I)Z"⟩, 23), (⟨"FlapBoardModel", "rows", "()I"⟩, 23), (⟨"FlapBoardModel", "isRowText", "(I)Z"⟩, 23), (⟨"FlapBoardModel", "wide", "()I"⟩, 23), (⟨"FlapBoardModel", "areSigns", "(II)Z"⟩, 23), (⟨"FlapBoardModel", "keepsAct", "()V"⟩, 23), (⟨"FlapBoardModel", "wantsSigns", "(IIIZ)I"⟩, 23), (⟨"FlapBoardModel", "flapFor", "(II)I"⟩, 23), (⟨"FlapBoardModel", "flaps", "(I)I"⟩, 23)]
theorem lw_r2 : ∀ q ∈ lw_privs_2, lw_okq q := List.forall_mem_cons.mpr ⟨lw_p16, List.forall_mem_cons.mpr ⟨lw_p17, List.forall_mem_cons.mpr ⟨lw_p18, List.forall_mem_cons.mpr ⟨lw_p19, List.forall_mem_cons.mpr ⟨lw_p20, List.forall_mem_cons.mpr ⟨lw_p21, List.forall_mem_cons.mpr ⟨lw_p22, List.forall_mem_cons.mpr ⟨lw_p23, List.forall_mem_cons.mpr ⟨lw_p24, List.forall_mem_cons.mpr ⟨lw_p25, List.forall_mem_cons.mpr ⟨lw_p26, List.forall_mem_cons.mpr ⟨lw_p27, List.forall_mem_cons.mpr ⟨lw_p28, List.forall_mem_cons.mpr ⟨lw_p29, List.forall_mem_cons.mpr ⟨lw_p30, List.forall_mem_cons.mpr ⟨lw_p31, fun _ h => absurd h List.not_mem_nil⟩⟩⟩⟩⟩⟩⟩⟩⟩⟩⟩⟩⟩⟩⟩⟩
theorem lw_p32 : lw_okq (⟨"FlapBoardModel", "of", "(II)I"⟩, 23) := ⟨⟨by decide +kernel, by decide +kernel⟩, w_s5 _ (List.mem_of_getElem? (i := 67) rfl), w_s5 _ (List.mem_of_getElem? (i := 193) rfl), w_s5 _ (List.mem_of_getElem? (i := 194) rfl)⟩
theorem lw_p33 : lw_okq (⟨"FlapBoardModel", "flapsOf", "(I)I"⟩, 23) := ⟨⟨by decide +kernel, by decide +kernel⟩, w_s5 _ (List.mem_of_getElem? (i := 67) rfl), w_s5 _ (List.mem_of_getElem? (i := 197) rfl), w_s5 _ (List.mem_of_getElem? (i := 198) rfl)⟩
theorem lw_p34 : lw_okq (⟨"FlapBoardModel", "signOf", "(II)I"⟩, 23) := ⟨⟨by decide +kernel, by decide +kernel⟩, w_s5 _ (List.mem_of_getElem? (i := 67) rfl), w_s5 _ (List.mem_of_getElem? (i := 201) rfl), w_s5 _ (List.mem_of_getElem? (i := 202) rfl)⟩
theorem lw_p35 : lw_okq (⟨"FlapBoardModel", "wornOf", "(I)J"⟩, 23) := ⟨⟨by decide +kernel, by decide +kernel⟩, w_s5 _ (List.mem_of_getElem? (i := 67) rfl), w_s5 _ (List.mem_of_getElem? (i := 205) rfl), w_s5 _ (List.mem_of_getElem? (i := 206) rfl)⟩
theorem lw_p36 : lw_okq (⟨"FlapBoardModel", "wantsFlap", "(IIZ)V"⟩, 23) := ⟨⟨by decide +kernel, by decide +kernel⟩, w_s5 _ (List.mem_of_getElem? (i := 67) rfl), w_s5 _ (List.mem_of_getElem? (i := 215) rfl), w_s5 _ (List.mem_of_getElem? (i := 216) rfl)⟩
theorem lw_p37 : lw_okq (⟨"FlapBoardModel", "sets", "(IIJ)V"⟩, 23) := ⟨⟨by decide +kernel, by decide +kernel⟩, w_s5 _ (List.mem_of_getElem? (i := 67) rfl), w_s5 _ (List.mem_of_getElem? (i := 219) rfl), w_s5 _ (List.mem_of_getElem? (i := 220) rfl)⟩
theorem lw_p38 : lw_okq (⟨"FlapBoardModel", "isBoard", "()Z"⟩, 23) := ⟨⟨by decide +kernel, by decide +kernel⟩, w_s5 _ (List.mem_of_getElem? (i := 67) rfl), w_s5 _ (List.mem_of_getElem? (i := 227) rfl), w_s5 _ (List.mem_of_getElem? (i := 228) rfl)⟩
theorem lw_p39 : lw_okq (⟨"FlapBoardModel", "drums", "()I"⟩, 23) := ⟨⟨by decide +kernel, by decide +kernel⟩, w_s5 _ (List.mem_of_getElem? (i := 67) rfl), w_s5 _ (List.mem_of_getElem? (i := 231) rfl), w_s5 _ (List.mem_of_getElem? (i := 232) rfl)⟩
theorem lw_p40 : lw_okq (⟨"FlapBoardModel", "scrolls", "(II)I"⟩, 23) := ⟨⟨by decide +kernel, by decide +kernel⟩, w_s5 _ (List.mem_of_getElem? (i := 67) rfl), w_s5 _ (List.mem_of_getElem? (i := 235) rfl), w_s5 _ (List.mem_of_getElem? (i := 236) rfl)⟩
theorem lw_p41 : lw_okq (⟨"FlapBoardModel", "cells", "()I"⟩, 23) := ⟨⟨by decide +kernel, by decide +kernel⟩, w_s5 _ (List.mem_of_getElem? (i := 67) rfl), w_s5 _ (List.mem_of_getElem? (i := 239) rfl), w_s6 _ (List.mem_of_getElem? (i := 0) rfl)⟩
theorem lw_p42 : lw_okq (⟨"FlapBoardModel", "ticks", "()I"⟩, 23) := ⟨⟨by decide +kernel, by decide +kernel⟩, w_s5 _ (List.mem_of_getElem? (i := 67) rfl), w_s6 _ (List.mem_of_getElem? (i := 8) rfl), w_s6 _ (List.mem_of_getElem? (i := 9) rfl)⟩
theorem lw_p43 : lw_okq (⟨"FlapBoardModel", "findsTurning", "()V"⟩, 23) := ⟨⟨by decide +kernel, by decide +kernel⟩, w_s5 _ (List.mem_of_getElem? (i := 67) rfl), w_s6 _ (List.mem_of_getElem? (i := 12) rfl), w_s6 _ (List.mem_of_getElem? (i := 13) rfl)⟩
theorem lw_p44 : lw_okq (⟨"FlapBoardModel", "leftOf", "(I)I"⟩, 23) := ⟨⟨by decide +kernel, by decide +kernel⟩, w_s5 _ (List.mem_of_getElem? (i := 67) rfl), w_s6 _ (List.mem_of_getElem? (i := 16) rfl), w_s6 _ (List.mem_of_getElem? (i := 17) rfl)⟩
theorem lw_p45 : lw_okq (⟨"FlapBoardModel", "current", "(I)I"⟩, 23) := ⟨⟨by decide +kernel, by decide +kernel⟩, w_s5 _ (List.mem_of_getElem? (i := 67) rfl), w_s6 _ (List.mem_of_getElem? (i := 20) rfl), w_s6 _ (List.mem_of_getElem? (i := 21) rfl)⟩
theorem lw_p46 : lw_okq (⟨"FlapBoardModel", "currentOf", "(I)I"⟩, 23) := ⟨⟨by decide +kernel, by decide +kernel⟩, w_s5 _ (List.mem_of_getElem? (i := 67) rfl), w_s6 _ (List.mem_of_getElem? (i := 24) rfl), w_s6 _ (List.mem_of_getElem? (i := 25) rfl)⟩
theorem lw_p47 : lw_okq (⟨"FlapBoardModel", "steps", "(I)V"⟩, 23) := ⟨⟨by decide +kernel, by decide +kernel⟩, w_s5 _ (List.mem_of_getElem? (i := 67) rfl), w_s6 _ (List.mem_of_getElem? (i := 28) rfl), w_s6 _ (List.mem_of_getElem? (i := 29) rfl)⟩
def lw_privs_3 : List (MethodName × Nat) := [(⟨"FlapBoardModel", "of", "(II)I"⟩, 23), (⟨"FlapBoardModel", "flapsOf", "(I)I"⟩, 23), (⟨"FlapBoardModel", "signOf", "(II)I"⟩, 23), (⟨"FlapBoardModel", "wornOf", "(I)J"⟩, 23), (⟨"FlapBoardModel", "wantsFlap", "(IIZ)V"⟩, 23), (⟨"FlapBoardModel", "sets", "(IIJ)V"⟩, 23), (⟨"FlapBoardModel", "isBoard", "()Z"⟩, 23), (⟨"FlapBoardModel", "drums", "()I"⟩, 23), (⟨"FlapBoardModel", "scrolls", "(II)I"⟩, 23), (⟨"FlapBoardModel", "cells", "()I"⟩, 23), (⟨"FlapBoardModel", "ticks", "()I"⟩, 23), (⟨"FlapBoardModel", "findsTurning", "()V"⟩, 23), (⟨"FlapBoardModel", "leftOf", "(I)I"⟩, 23), (⟨"FlapBoardModel", "current", "(I)I"⟩, 23), (⟨"FlapBoardModel", "currentOf", "(I)I"⟩, 23), (⟨"FlapBoardModel", "steps", "(I)V"⟩, 23)]
theorem lw_r3 : ∀ q ∈ lw_privs_3, lw_okq q := List.forall_mem_cons.mpr ⟨lw_p32, List.forall_mem_cons.mpr ⟨lw_p33, List.forall_mem_cons.mpr ⟨lw_p34, List.forall_mem_cons.mpr ⟨lw_p35, List.forall_mem_cons.mpr ⟨lw_p36, List.forall_mem_cons.mpr ⟨lw_p37, List.forall_mem_cons.mpr ⟨lw_p38, List.forall_mem_cons.mpr ⟨lw_p39, List.forall_mem_cons.mpr ⟨lw_p40, List.forall_mem_cons.mpr ⟨lw_p41, List.forall_mem_cons.mpr ⟨lw_p42, List.forall_mem_cons.mpr ⟨lw_p43, List.forall_mem_cons.mpr ⟨lw_p44, List.forall_mem_cons.mpr ⟨lw_p45, List.forall_mem_cons.mpr ⟨lw_p46, List.forall_mem_cons.mpr ⟨lw_p47, fun _ h => absurd h List.not_mem_nil⟩⟩⟩⟩⟩⟩⟩⟩⟩⟩⟩⟩⟩⟩⟩⟩
theorem lw_p48 : lw_okq (⟨"FlapBoardModel", "settles", "()I"⟩, 23) := ⟨⟨by decide +kernel, by decide +kernel⟩, w_s5 _ (List.mem_of_getElem? (i := 67) rfl), w_s6 _ (List.mem_of_getElem? (i := 36) rfl), w_s6 _ (List.mem_of_getElem? (i := 37) rfl)⟩
theorem lw_p49 : lw_okq (⟨"FlapBoardModel", "isCell", "(I)Z"⟩, 23) := ⟨⟨by decide +kernel, by decide +kernel⟩, w_s5 _ (List.mem_of_getElem? (i := 67) rfl), w_s6 _ (List.mem_of_getElem? (i := 44) rfl), w_s6 _ (List.mem_of_getElem? (i := 45) rfl)⟩
theorem lw_p50 : lw_okq (⟨"FlapBoardModel", "isFlap", "(II)Z"⟩, 23) := ⟨⟨by decide +kernel, by decide +kernel⟩, w_s5 _ (List.mem_of_getElem? (i := 67) rfl), w_s6 _ (List.mem_of_getElem? (i := 53) rfl), w_s6 _ (List.mem_of_getElem? (i := 54) rfl)⟩
theorem lw_p51 : lw_okq (⟨"FlapBoardModel", "wears", "(II)V"⟩, 23) := ⟨⟨by decide +kernel, by decide +kernel⟩, w_s5 _ (List.mem_of_getElem? (i := 67) rfl), w_s6 _ (List.mem_of_getElem? (i := 57) rfl), w_s6 _ (List.mem_of_getElem? (i := 58) rfl)⟩
theorem lw_p52 : lw_okq (⟨"FlapBoardModel", "isDrum", "(I)Z"⟩, 23) := ⟨⟨by decide +kernel, by decide +kernel⟩, w_s5 _ (List.mem_of_getElem? (i := 67) rfl), w_s6 _ (List.mem_of_getElem? (i := 77) rfl), w_s6 _ (List.mem_of_getElem? (i := 78) rfl)⟩
theorem lw_p53 : lw_okq (⟨"FlapBoardModel", "cellsWith", "(I)I"⟩, 23) := ⟨⟨by decide +kernel, by decide +kernel⟩, w_s5 _ (List.mem_of_getElem? (i := 67) rfl), w_s6 _ (List.mem_of_getElem? (i := 105) rfl), w_s6 _ (List.mem_of_getElem? (i := 106) rfl)⟩
theorem lw_p54 : lw_okq (⟨"FlapBoardModel", "signsOf", "(IZ)I"⟩, 23) := ⟨⟨by decide +kernel, by decide +kernel⟩, w_s5 _ (List.mem_of_getElem? (i := 67) rfl), w_s6 _ (List.mem_of_getElem? (i := 109) rfl), w_s6 _ (List.mem_of_getElem? (i := 110) rfl)⟩
theorem lw_p55 : lw_okq (⟨"FlapBoardModel", "manyWith", "(II)I"⟩, 23) := ⟨⟨by decide +kernel, by decide +kernel⟩, w_s5 _ (List.mem_of_getElem? (i := 67) rfl), w_s6 _ (List.mem_of_getElem? (i := 113) rfl), w_s6 _ (List.mem_of_getElem? (i := 114) rfl)⟩
theorem lw_p56 : lw_okq (⟨"FlapBoardModel", "signAt", "(II)I"⟩, 23) := ⟨⟨by decide +kernel, by decide +kernel⟩, w_s5 _ (List.mem_of_getElem? (i := 67) rfl), w_s6 _ (List.mem_of_getElem? (i := 126) rfl), w_s6 _ (List.mem_of_getElem? (i := 127) rfl)⟩
theorem lw_p57 : lw_okq (⟨"FlapBoardModel", "isSuch", "(II)Z"⟩, 23) := ⟨⟨by decide +kernel, by decide +kernel⟩, w_s5 _ (List.mem_of_getElem? (i := 67) rfl), w_s6 _ (List.mem_of_getElem? (i := 135) rfl), w_s6 _ (List.mem_of_getElem? (i := 136) rfl)⟩
theorem lw_p58 : lw_okq (⟨"FlapBoardModel", "isOther", "(I)Z"⟩, 23) := ⟨⟨by decide +kernel, by decide +kernel⟩, w_s5 _ (List.mem_of_getElem? (i := 67) rfl), w_s6 _ (List.mem_of_getElem? (i := 139) rfl), w_s6 _ (List.mem_of_getElem? (i := 140) rfl)⟩
theorem lw_p59 : lw_okq (⟨"FlapBoardModel", "putsAside", "()V"⟩, 23) := ⟨⟨by decide +kernel, by decide +kernel⟩, w_s5 _ (List.mem_of_getElem? (i := 67) rfl), w_s6 _ (List.mem_of_getElem? (i := 153) rfl), w_s6 _ (List.mem_of_getElem? (i := 154) rfl)⟩
theorem lw_p60 : lw_okq (⟨"FlapBoardModel", "others", "()I"⟩, 23) := ⟨⟨by decide +kernel, by decide +kernel⟩, w_s5 _ (List.mem_of_getElem? (i := 67) rfl), w_s6 _ (List.mem_of_getElem? (i := 157) rfl), w_s6 _ (List.mem_of_getElem? (i := 158) rfl)⟩
theorem lw_p61 : lw_okq (⟨"FlapBoardModel", "takesBack", "()V"⟩, 23) := ⟨⟨by decide +kernel, by decide +kernel⟩, w_s5 _ (List.mem_of_getElem? (i := 67) rfl), w_s6 _ (List.mem_of_getElem? (i := 161) rfl), w_s6 _ (List.mem_of_getElem? (i := 162) rfl)⟩
theorem lw_p62 : lw_okq (⟨"FlapBoardModel", "asks", "(IIII)V"⟩, 23) := ⟨⟨by decide +kernel, by decide +kernel⟩, w_s5 _ (List.mem_of_getElem? (i := 67) rfl), w_s6 _ (List.mem_of_getElem? (i := 195) rfl), w_s6 _ (List.mem_of_getElem? (i := 196) rfl)⟩
theorem lw_p63 : lw_okq (⟨"FlapBoardModel", "endOf", "(I)I"⟩, 23) := ⟨⟨by decide +kernel, by decide +kernel⟩, w_s5 _ (List.mem_of_getElem? (i := 67) rfl), w_s6 _ (List.mem_of_getElem? (i := 203) rfl), w_s6 _ (List.mem_of_getElem? (i := 204) rfl)⟩
def lw_privs_4 : List (MethodName × Nat) := [(⟨"FlapBoardModel", "settles", "()I"⟩, 23), (⟨"FlapBoardModel", "isCell", "(I)Z"⟩, 23), (⟨"FlapBoardModel", "isFlap", "(II)Z"⟩, 23), (⟨"FlapBoardModel", "wears", "(II)V"⟩, 23), (⟨"FlapBoardModel", "isDrum", "(I)Z"⟩, 23), (⟨"FlapBoardModel", "cellsWith", "(I)I"⟩, 23), (⟨"FlapBoardModel", "signsOf", "(IZ)I"⟩, 23), (⟨"FlapBoardModel", "manyWith", "(II)I"⟩, 23), (⟨"FlapBoardModel", "signAt", "(II)I"⟩, 23), (⟨"FlapBoardModel", "isSuch", "(II)Z"⟩, 23), (⟨"FlapBoardModel", "isOther", "(I)Z"⟩, 23), (⟨"FlapBoardModel", "putsAside", "()V"⟩, 23), (⟨"FlapBoardModel", "others", "()I"⟩, 23), (⟨"FlapBoardModel", "takesBack", "()V"⟩, 23), (⟨"FlapBoardModel", "asks", "(IIII)V"⟩, 23), (⟨"FlapBoardModel", "endOf", "(I)I"⟩, 23)]
theorem lw_r4 : ∀ q ∈ lw_privs_4, lw_okq q := List.forall_mem_cons.mpr ⟨lw_p48, List.forall_mem_cons.mpr ⟨lw_p49, List.forall_mem_cons.mpr ⟨lw_p50, List.forall_mem_cons.mpr ⟨lw_p51, List.forall_mem_cons.mpr ⟨lw_p52, List.forall_mem_cons.mpr ⟨lw_p53, List.forall_mem_cons.mpr ⟨lw_p54, List.forall_mem_cons.mpr ⟨lw_p55, List.forall_mem_cons.mpr ⟨lw_p56, List.forall_mem_cons.mpr ⟨lw_p57, List.forall_mem_cons.mpr ⟨lw_p58, List.forall_mem_cons.mpr ⟨lw_p59, List.forall_mem_cons.mpr ⟨lw_p60, List.forall_mem_cons.mpr ⟨lw_p61, List.forall_mem_cons.mpr ⟨lw_p62, List.forall_mem_cons.mpr ⟨lw_p63, fun _ h => absurd h List.not_mem_nil⟩⟩⟩⟩⟩⟩⟩⟩⟩⟩⟩⟩⟩⟩⟩⟩
theorem lw_p64 : lw_okq (⟨"FlapBoardModel", "journey", "(III)I"⟩, 23) := ⟨⟨by decide +kernel, by decide +kernel⟩, w_s5 _ (List.mem_of_getElem? (i := 67) rfl), w_s6 _ (List.mem_of_getElem? (i := 215) rfl), w_s6 _ (List.mem_of_getElem? (i := 216) rfl)⟩
theorem lw_p65 : lw_okq (⟨"FlapBoardModel", "logged", "(III)I"⟩, 23) := ⟨⟨by decide +kernel, by decide +kernel⟩, w_s5 _ (List.mem_of_getElem? (i := 67) rfl), w_s6 _ (List.mem_of_getElem? (i := 219) rfl), w_s6 _ (List.mem_of_getElem? (i := 220) rfl)⟩
theorem lw_p66 : lw_okq (⟨"FlapBoardModel", "entries", "(IZ)I"⟩, 23) := ⟨⟨by decide +kernel, by decide +kernel⟩, w_s5 _ (List.mem_of_getElem? (i := 67) rfl), w_s6 _ (List.mem_of_getElem? (i := 226) rfl), w_s6 _ (List.mem_of_getElem? (i := 227) rfl)⟩
theorem lw_p67 : lw_okq (⟨"FlapBoardModel", "hasElsewhere", "(II)Z"⟩, 23) := ⟨⟨by decide +kernel, by decide +kernel⟩, w_s5 _ (List.mem_of_getElem? (i := 67) rfl), w_s7 _ (List.mem_of_getElem? (i := 6) rfl), w_s7 _ (List.mem_of_getElem? (i := 7) rfl)⟩
theorem lw_p68 : lw_okq (⟨"FlapBoardModel", "lays", "(I)V"⟩, 23) := ⟨⟨by decide +kernel, by decide +kernel⟩, w_s5 _ (List.mem_of_getElem? (i := 67) rfl), w_s7 _ (List.mem_of_getElem? (i := 14) rfl), w_s7 _ (List.mem_of_getElem? (i := 15) rfl)⟩
theorem lw_p69 : lw_okq (⟨"FlapBoardModel", "readsBoard", "()Z"⟩, 23) := ⟨⟨by decide +kernel, by decide +kernel⟩, w_s5 _ (List.mem_of_getElem? (i := 67) rfl), w_s7 _ (List.mem_of_getElem? (i := 26) rfl), w_s7 _ (List.mem_of_getElem? (i := 27) rfl)⟩
theorem lw_p70 : lw_okq (⟨"FlapBoardModel", "mustWord", "(Ljava/lang/String;)Z"⟩, 23) := ⟨⟨by decide +kernel, by decide +kernel⟩, w_s5 _ (List.mem_of_getElem? (i := 67) rfl), w_s7 _ (List.mem_of_getElem? (i := 31) rfl), w_s7 _ (List.mem_of_getElem? (i := 32) rfl)⟩
theorem lw_p71 : lw_okq (⟨"FlapBoardModel", "takesWord", "(Ljava/lang/String;)Z"⟩, 23) := ⟨⟨by decide +kernel, by decide +kernel⟩, w_s5 _ (List.mem_of_getElem? (i := 67) rfl), w_s7 _ (List.mem_of_getElem? (i := 35) rfl), w_s7 _ (List.mem_of_getElem? (i := 36) rfl)⟩
theorem lw_p72 : lw_okq (⟨"FlapBoardModel", "isWord", "(Ljava/lang/String;)Z"⟩, 23) := ⟨⟨by decide +kernel, by decide +kernel⟩, w_s5 _ (List.mem_of_getElem? (i := 67) rfl), w_s7 _ (List.mem_of_getElem? (i := 39) rfl), w_s7 _ (List.mem_of_getElem? (i := 40) rfl)⟩
theorem lw_p73 : lw_okq (⟨"FlapBoardModel", "nextByte", "()I"⟩, 23) := ⟨⟨by decide +kernel, by decide +kernel⟩, w_s5 _ (List.mem_of_getElem? (i := 67) rfl), w_s7 _ (List.mem_of_getElem? (i := 43) rfl), w_s7 _ (List.mem_of_getElem? (i := 44) rfl)⟩
theorem lw_p74 : lw_okq (⟨"FlapBoardModel", "byteAt", "(I)I"⟩, 23) := ⟨⟨by decide +kernel, by decide +kernel⟩, w_s5 _ (List.mem_of_getElem? (i := 67) rfl), w_s7 _ (List.mem_of_getElem? (i := 47) rfl), w_s7 _ (List.mem_of_getElem? (i := 48) rfl)⟩
theorem lw_p75 : lw_okq (⟨"FlapBoardModel", "fails", "(II)Z"⟩, 23) := ⟨⟨by decide +kernel, by decide +kernel⟩, w_s5 _ (List.mem_of_getElem? (i := 67) rfl), w_s7 _ (List.mem_of_getElem? (i := 55) rfl), w_s7 _ (List.mem_of_getElem? (i := 56) rfl)⟩
theorem lw_p76 : lw_okq (⟨"FlapBoardModel", "readsNumber", "(II)Z"⟩, 23) := ⟨⟨by decide +kernel, by decide +kernel⟩, w_s5 _ (List.mem_of_getElem? (i := 67) rfl), w_s7 _ (List.mem_of_getElem? (i := 59) rfl), w_s7 _ (List.mem_of_getElem? (i := 60) rfl)⟩
theorem lw_p77 : lw_okq (⟨"FlapBoardModel", "readsPart", "()Z"⟩, 23) := ⟨⟨by decide +kernel, by decide +kernel⟩, w_s5 _ (List.mem_of_getElem? (i := 67) rfl), w_s7 _ (List.mem_of_getElem? (i := 66) rfl), w_s7 _ (List.mem_of_getElem? (i := 67) rfl)⟩
theorem lw_p78 : lw_okq (⟨"FlapBoardModel", "readsDrum", "()Z"⟩, 23) := ⟨⟨by decide +kernel, by decide +kernel⟩, w_s5 _ (List.mem_of_getElem? (i := 67) rfl), w_s7 _ (List.mem_of_getElem? (i := 71) rfl), w_s7 _ (List.mem_of_getElem? (i := 72) rfl)⟩
theorem lw_p79 : lw_okq (⟨"FlapBoardModel", "readsQuoted", "(II)Z"⟩, 23) := ⟨⟨by decide +kernel, by decide +kernel⟩, w_s5 _ (List.mem_of_getElem? (i := 67) rfl), w_s7 _ (List.mem_of_getElem? (i := 75) rfl), w_s7 _ (List.mem_of_getElem? (i := 76) rfl)⟩
def lw_privs_5 : List (MethodName × Nat) := [(⟨"FlapBoardModel", "journey", "(III)I"⟩, 23), (⟨"FlapBoardModel", "logged", "(III)I"⟩, 23), (⟨"FlapBoardModel", "entries", "(IZ)I"⟩, 23), (⟨"FlapBoardModel", "hasElsewhere", "(II)Z"⟩, 23), (⟨"FlapBoardModel", "lays", "(I)V"⟩, 23), (⟨"FlapBoardModel", "readsBoard", "()Z"⟩, 23), (⟨"FlapBoardModel", "mustWord", "(Ljava/lang/String;)Z"⟩, 23), (⟨"FlapBoardModel", "takesWord", "(Ljava/lang/String;)Z"⟩, 23), (⟨"FlapBoardModel", "isWord", "(Ljava/lang/String;)Z"⟩, 23), (⟨"FlapBoardModel", "nextByte", "()I"⟩, 23), (⟨"FlapBoardModel", "byteAt", "(I)I"⟩, 23), (⟨"FlapBoardModel", "fails", "(II)Z"⟩, 23), (⟨"FlapBoardModel", "readsNumber", "(II)Z"⟩, 23), (⟨"FlapBoardModel", "readsPart", "()Z"⟩, 23), (⟨"FlapBoardModel", "readsDrum", "()Z"⟩, 23), (⟨"FlapBoardModel", "readsQuoted", "(II)Z"⟩, 23)]
theorem lw_r5 : ∀ q ∈ lw_privs_5, lw_okq q := List.forall_mem_cons.mpr ⟨lw_p64, List.forall_mem_cons.mpr ⟨lw_p65, List.forall_mem_cons.mpr ⟨lw_p66, List.forall_mem_cons.mpr ⟨lw_p67, List.forall_mem_cons.mpr ⟨lw_p68, List.forall_mem_cons.mpr ⟨lw_p69, List.forall_mem_cons.mpr ⟨lw_p70, List.forall_mem_cons.mpr ⟨lw_p71, List.forall_mem_cons.mpr ⟨lw_p72, List.forall_mem_cons.mpr ⟨lw_p73, List.forall_mem_cons.mpr ⟨lw_p74, List.forall_mem_cons.mpr ⟨lw_p75, List.forall_mem_cons.mpr ⟨lw_p76, List.forall_mem_cons.mpr ⟨lw_p77, List.forall_mem_cons.mpr ⟨lw_p78, List.forall_mem_cons.mpr ⟨lw_p79, fun _ h => absurd h List.not_mem_nil⟩⟩⟩⟩⟩⟩⟩⟩⟩⟩⟩⟩⟩⟩⟩⟩
theorem lw_p80 : lw_okq (⟨"FlapBoardModel", "mustByte", "(I)Z"⟩, 23) := ⟨⟨by decide +kernel, by decide +kernel⟩, w_s5 _ (List.mem_of_getElem? (i := 67) rfl), w_s7 _ (List.mem_of_getElem? (i := 79) rfl), w_s7 _ (List.mem_of_getElem? (i := 80) rfl)⟩
theorem lw_p81 : lw_okq (⟨"FlapBoardModel", "takesByte", "(I)Z"⟩, 23) := ⟨⟨by decide +kernel, by decide +kernel⟩, w_s5 _ (List.mem_of_getElem? (i := 67) rfl), w_s7 _ (List.mem_of_getElem? (i := 83) rfl), w_s7 _ (List.mem_of_getElem? (i := 84) rfl)⟩
theorem lw_p82 : lw_okq (⟨"FlapBoardModel", "readsCells", "()Z"⟩, 23) := ⟨⟨by decide +kernel, by decide +kernel⟩, w_s5 _ (List.mem_of_getElem? (i := 67) rfl), w_s7 _ (List.mem_of_getElem? (i := 91) rfl), w_s7 _ (List.mem_of_getElem? (i := 92) rfl)⟩
theorem lw_p83 : lw_okq (⟨"FlapBoardModel", "readsWorn", "()Z"⟩, 23) := ⟨⟨by decide +kernel, by decide +kernel⟩, w_s5 _ (List.mem_of_getElem? (i := 67) rfl), w_s7 _ (List.mem_of_getElem? (i := 95) rfl), w_s7 _ (List.mem_of_getElem? (i := 96) rfl)⟩
theorem lw_p84 : lw_okq (⟨"FlapBoardModel", "readsRow", "()Z"⟩, 23) := ⟨⟨by decide +kernel, by decide +kernel⟩, w_s5 _ (List.mem_of_getElem? (i := 67) rfl), w_s7 _ (List.mem_of_getElem? (i := 99) rfl), w_s7 _ (List.mem_of_getElem? (i := 100) rfl)⟩
theorem lw_p85 : lw_okq (⟨"FlapBoardModel", "readsLose", "()Z"⟩, 23) := ⟨⟨by decide +kernel, by decide +kernel⟩, w_s5 _ (List.mem_of_getElem? (i := 67) rfl), w_s7 _ (List.mem_of_getElem? (i := 103) rfl), w_s7 _ (List.mem_of_getElem? (i := 104) rfl)⟩
theorem lw_p86 : lw_okq (⟨"FlapBoardModel", "goesProgram", "(Z)Z"⟩, 23) := ⟨⟨by decide +kernel, by decide +kernel⟩, w_s5 _ (List.mem_of_getElem? (i := 67) rfl), w_s7 _ (List.mem_of_getElem? (i := 111) rfl), w_s7 _ (List.mem_of_getElem? (i := 112) rfl)⟩
theorem lw_p87 : lw_okq (⟨"FlapBoardModel", "goesAll", "(Z)Z"⟩, 23) := ⟨⟨by decide +kernel, by decide +kernel⟩, w_s5 _ (List.mem_of_getElem? (i := 67) rfl), w_s7 _ (List.mem_of_getElem? (i := 115) rfl), w_s7 _ (List.mem_of_getElem? (i := 116) rfl)⟩
theorem lw_p88 : lw_okq (⟨"FlapBoardModel", "goesOne", "(Z)Z"⟩, 23) := ⟨⟨by decide +kernel, by decide +kernel⟩, w_s5 _ (List.mem_of_getElem? (i := 67) rfl), w_s7 _ (List.mem_of_getElem? (i := 119) rfl), w_s7 _ (List.mem_of_getElem? (i := 120) rfl)⟩
theorem lw_p89 : lw_okq (⟨"FlapBoardModel", "goesRow", "(Z)Z"⟩, 23) := ⟨⟨by decide +kernel, by decide +kernel⟩, w_s5 _ (List.mem_of_getElem? (i := 67) rfl), w_s7 _ (List.mem_of_getElem? (i := 123) rfl), w_s7 _ (List.mem_of_getElem? (i := 124) rfl)⟩
theorem lw_p90 : lw_okq (⟨"FlapBoardModel", "isDone", "(Z)Z"⟩, 23) := ⟨⟨by decide +kernel, by decide +kernel⟩, w_s5 _ (List.mem_of_getElem? (i := 67) rfl), w_s7 _ (List.mem_of_getElem? (i := 127) rfl), w_s7 _ (List.mem_of_getElem? (i := 128) rfl)⟩
theorem lw_p91 : lw_okq (⟨"FlapBoardModel", "goesScroll", "(Z)Z"⟩, 23) := ⟨⟨by decide +kernel, by decide +kernel⟩, w_s5 _ (List.mem_of_getElem? (i := 67) rfl), w_s7 _ (List.mem_of_getElem? (i := 132) rfl), w_s7 _ (List.mem_of_getElem? (i := 133) rfl)⟩
theorem lw_p92 : lw_okq (⟨"FlapBoardModel", "goesHome", "(Z)Z"⟩, 23) := ⟨⟨by decide +kernel, by decide +kernel⟩, w_s5 _ (List.mem_of_getElem? (i := 67) rfl), w_s7 _ (List.mem_of_getElem? (i := 137) rfl), w_s7 _ (List.mem_of_getElem? (i := 138) rfl)⟩
theorem lw_p93 : lw_okq (⟨"FlapBoardModel", "goesWait", "(Z)Z"⟩, 23) := ⟨⟨by decide +kernel, by decide +kernel⟩, w_s5 _ (List.mem_of_getElem? (i := 67) rfl), w_s7 _ (List.mem_of_getElem? (i := 142) rfl), w_s7 _ (List.mem_of_getElem? (i := 143) rfl)⟩
theorem lw_p94 : lw_okq (⟨"FlapBoardModel", "goesSettle", "(Z)Z"⟩, 23) := ⟨⟨by decide +kernel, by decide +kernel⟩, w_s5 _ (List.mem_of_getElem? (i := 67) rfl), w_s7 _ (List.mem_of_getElem? (i := 147) rfl), w_s7 _ (List.mem_of_getElem? (i := 148) rfl)⟩
theorem lw_p95 : lw_okq (⟨"FlapBoardModel", "goesLose", "(Z)Z"⟩, 23) := ⟨⟨by decide +kernel, by decide +kernel⟩, w_s5 _ (List.mem_of_getElem? (i := 67) rfl), w_s7 _ (List.mem_of_getElem? (i := 151) rfl), w_s7 _ (List.mem_of_getElem? (i := 152) rfl)⟩
def lw_privs_6 : List (MethodName × Nat) := [(⟨"FlapBoardModel", "mustByte", "(I)Z"⟩, 23), (⟨"FlapBoardModel", "takesByte", "(I)Z"⟩, 23), (⟨"FlapBoardModel", "readsCells", "()Z"⟩, 23), (⟨"FlapBoardModel", "readsWorn", "()Z"⟩, 23), (⟨"FlapBoardModel", "readsRow", "()Z"⟩, 23), (⟨"FlapBoardModel", "readsLose", "()Z"⟩, 23), (⟨"FlapBoardModel", "goesProgram", "(Z)Z"⟩, 23), (⟨"FlapBoardModel", "goesAll", "(Z)Z"⟩, 23), (⟨"FlapBoardModel", "goesOne", "(Z)Z"⟩, 23), (⟨"FlapBoardModel", "goesRow", "(Z)Z"⟩, 23), (⟨"FlapBoardModel", "isDone", "(Z)Z"⟩, 23), (⟨"FlapBoardModel", "goesScroll", "(Z)Z"⟩, 23), (⟨"FlapBoardModel", "goesHome", "(Z)Z"⟩, 23), (⟨"FlapBoardModel", "goesWait", "(Z)Z"⟩, 23), (⟨"FlapBoardModel", "goesSettle", "(Z)Z"⟩, 23), (⟨"FlapBoardModel", "goesLose", "(Z)Z"⟩, 23)]
theorem lw_r6 : ∀ q ∈ lw_privs_6, lw_okq q := List.forall_mem_cons.mpr ⟨lw_p80, List.forall_mem_cons.mpr ⟨lw_p81, List.forall_mem_cons.mpr ⟨lw_p82, List.forall_mem_cons.mpr ⟨lw_p83, List.forall_mem_cons.mpr ⟨lw_p84, List.forall_mem_cons.mpr ⟨lw_p85, List.forall_mem_cons.mpr ⟨lw_p86, List.forall_mem_cons.mpr ⟨lw_p87, List.forall_mem_cons.mpr ⟨lw_p88, List.forall_mem_cons.mpr ⟨lw_p89, List.forall_mem_cons.mpr ⟨lw_p90, List.forall_mem_cons.mpr ⟨lw_p91, List.forall_mem_cons.mpr ⟨lw_p92, List.forall_mem_cons.mpr ⟨lw_p93, List.forall_mem_cons.mpr ⟨lw_p94, List.forall_mem_cons.mpr ⟨lw_p95, fun _ h => absurd h List.not_mem_nil⟩⟩⟩⟩⟩⟩⟩⟩⟩⟩⟩⟩⟩⟩⟩⟩
theorem lw_p96 : lw_okq (⟨"FlapBoardModel", "goesTimes", "(Z)Z"⟩, 23) := ⟨⟨by decide +kernel, by decide +kernel⟩, w_s5 _ (List.mem_of_getElem? (i := 67) rfl), w_s7 _ (List.mem_of_getElem? (i := 156) rfl), w_s7 _ (List.mem_of_getElem? (i := 157) rfl)⟩
def lw_privs_7 : List (MethodName × Nat) := [(⟨"FlapBoardModel", "goesTimes", "(Z)Z"⟩, 23)]
theorem lw_r7 : ∀ q ∈ lw_privs_7, lw_okq q := List.forall_mem_cons.mpr ⟨lw_p96, fun _ h => absurd h List.not_mem_nil⟩
def lw_privs : List (MethodName × Nat) := lw_privs_1 ++ (lw_privs_2 ++ (lw_privs_3 ++ (lw_privs_4 ++ (lw_privs_5 ++ (lw_privs_6 ++ (lw_privs_7))))))
def lw_tbl : List Cond := k2_sels lw_privs ++ tables_1
theorem lw_privs_ok : ∀ q ∈ lw_privs, lw_okq q := by
  show ∀ q ∈ lw_privs_1 ++ (lw_privs_2 ++ (lw_privs_3 ++ (lw_privs_4 ++ (lw_privs_5 ++ (lw_privs_6 ++ (lw_privs_7)))))), lw_okq q
  exact List.forall_mem_append.mpr ⟨lw_r1, List.forall_mem_append.mpr ⟨lw_r2, List.forall_mem_append.mpr ⟨lw_r3, List.forall_mem_append.mpr ⟨lw_r4, List.forall_mem_append.mpr ⟨lw_r5, List.forall_mem_append.mpr ⟨lw_r6, lw_r7⟩⟩⟩⟩⟩⟩

def RX0 : String := "FlapBoard$Board"
def TX0 : u_T := fun k => match k with
  | 0 => ("FlapBoard$Board", "rows", "I", false)
  | 1 => ("FlapBoard$Board", "wide", "I", false)
  | 2 => ("FlapBoard$Board", "limit", "I", false)
  | 3 => ("FlapBoard$Board", "drums", "I", false)
  | 4 => ("FlapBoard$Board", "clatter", "I", false)
  | 5 => ("FlapBoard$Board", "ticks", "I", false)
  | 6 => ("FlapBoard$Board", "currents", "[I", true)
  | 7 => ("FlapBoard$Board", "sizes", "[I", true)
  | 8 => ("FlapBoard$Board", "signs", "[I", true)
  | 9 => ("FlapBoard$Board", "drumOf", "[I", true)
  | 10 => ("FlapBoard$Board", "shows", "[I", true)
  | 11 => ("FlapBoard$Board", "believes", "[I", true)
  | 12 => ("FlapBoard$Board", "wants", "[I", true)
  | 13 => ("FlapBoard$Board", "loses", "[I", true)
  | 14 => ("FlapBoard$Board", "steps", "[I", true)
  | 15 => ("FlapBoard$Board", "founds", "[I", true)
  | 16 => ("FlapBoard$Board", "wornOf", "[J", true)
  | _ => ("FlapBoard$Board", "entries", "[I", false)
def tyX0 : Nat → FieldType := fun k => match k with
  | 0 => .int
  | 1 => .int
  | 2 => .int
  | 3 => .int
  | 4 => .int
  | 5 => .int
  | 6 => .array .int
  | 7 => .array .int
  | 8 => .array .int
  | 9 => .array .int
  | 10 => .array .int
  | 11 => .array .int
  | 12 => .array .int
  | 13 => .array .int
  | 14 => .array .int
  | 15 => .array .int
  | 16 => .array .long
  | _ => .array .int
theorem nmX0 : ∀ a, a < 18 → ∀ b, b < 18 → a ≠ b → (TX0 a).2.1 ≠ (TX0 b).2.1 := by decide +kernel
theorem tyX0_ok : ∀ k, k < 18 → parseFieldDescriptor (TX0 k).2.2.1 = some (tyX0 k) := by decide +kernel
abbrev cX0_init : ByteArray := prog_2_method_1_code
def yX0_init : MethodName := ⟨RX0, "<init>", "()V"⟩
abbrev cX0_clear : ByteArray := prog_2_method_2_code
def yX0_clear : MethodName := ⟨RX0, "clear", "()V"⟩
abbrev cX0_setLost : ByteArray := prog_2_method_3_code
def yX0_setLost : MethodName := ⟨RX0, "setLost", "(II)V"⟩
abbrev cX0_makeCell : ByteArray := prog_2_method_4_code
def yX0_makeCell : MethodName := ⟨RX0, "makeCell", "(II)V"⟩
abbrev cX0_addDrum : ByteArray := prog_2_method_5_code
def yX0_addDrum : MethodName := ⟨RX0, "addDrum", "(ILFlapBoard$Tape;II)V"⟩
abbrev cX0_copyAll : ByteArray := prog_2_method_6_code
def yX0_copyAll : MethodName := ⟨RX0, "copyAll", "(LFlapBoard$Board;)V"⟩
abbrev cX0_copyAllButLog : ByteArray := prog_2_method_7_code
def yX0_copyAllButLog : MethodName := ⟨RX0, "copyAllButLog", "(LFlapBoard$Board;)V"⟩
abbrev cX0_isThere : ByteArray := prog_2_method_8_code
def yX0_isThere : MethodName := ⟨RX0, "isThere", "()Z"⟩
abbrev cX0_cells : ByteArray := prog_2_method_9_code
def yX0_cells : MethodName := ⟨RX0, "cells", "()I"⟩
abbrev cX0_hasCell : ByteArray := prog_2_method_10_code
def yX0_hasCell : MethodName := ⟨RX0, "hasCell", "(I)Z"⟩
abbrev cX0_hasRow : ByteArray := prog_2_method_11_code
def yX0_hasRow : MethodName := ⟨RX0, "hasRow", "(I)Z"⟩
abbrev cX0_hasDrum : ByteArray := prog_2_method_12_code
def yX0_hasDrum : MethodName := ⟨RX0, "hasDrum", "(I)Z"⟩
abbrev cX0_hasFlap : ByteArray := prog_2_method_13_code
def yX0_hasFlap : MethodName := ⟨RX0, "hasFlap", "(II)Z"⟩
abbrev cX0_isMovable : ByteArray := prog_2_method_14_code
def yX0_isMovable : MethodName := ⟨RX0, "isMovable", "(II)Z"⟩
abbrev cX0_flapsOn : ByteArray := prog_2_method_15_code
def yX0_flapsOn : MethodName := ⟨RX0, "flapsOn", "(I)I"⟩
abbrev cX0_flapsOf : ByteArray := prog_2_method_16_code
def yX0_flapsOf : MethodName := ⟨RX0, "flapsOf", "(I)I"⟩
abbrev cX0_currentOf : ByteArray := prog_2_method_17_code
def yX0_currentOf : MethodName := ⟨RX0, "currentOf", "(I)I"⟩
abbrev cX0_signOf : ByteArray := prog_2_method_18_code
def yX0_signOf : MethodName := ⟨RX0, "signOf", "(II)I"⟩
abbrev cX0_signOn : ByteArray := prog_2_method_19_code
def yX0_signOn : MethodName := ⟨RX0, "signOn", "(II)I"⟩
abbrev cX0_wantedSign : ByteArray := prog_2_method_20_code
def yX0_wantedSign : MethodName := ⟨RX0, "wantedSign", "(I)I"⟩
abbrev cX0_showsWrong : ByteArray := prog_2_method_21_code
def yX0_showsWrong : MethodName := ⟨RX0, "showsWrong", "(I)Z"⟩
abbrev cX0_wrongCount : ByteArray := prog_2_method_22_code
def yX0_wrongCount : MethodName := ⟨RX0, "wrongCount", "()I"⟩
abbrev cX0_sumOf : ByteArray := prog_2_method_23_code
def yX0_sumOf : MethodName := ⟨RX0, "sumOf", "([I)I"⟩
abbrev cX0_swapSigns : ByteArray := prog_2_method_24_code
def yX0_swapSigns : MethodName := ⟨RX0, "swapSigns", "(III)V"⟩
abbrev cX0_cellsWith : ByteArray := prog_2_method_25_code
def yX0_cellsWith : MethodName := ⟨RX0, "cellsWith", "(I)I"⟩
abbrev cX0_flapsWith : ByteArray := prog_2_method_26_code
def yX0_flapsWith : MethodName := ⟨RX0, "flapsWith", "(III)I"⟩
abbrev cX0_drumHas : ByteArray := prog_2_method_27_code
def yX0_drumHas : MethodName := ⟨RX0, "drumHas", "(II)Z"⟩
abbrev cX0_someDrumHas : ByteArray := prog_2_method_28_code
def yX0_someDrumHas : MethodName := ⟨RX0, "someDrumHas", "(I)Z"⟩
abbrev cX0_missedOfOwn : ByteArray := prog_2_method_29_code
def yX0_missedOfOwn : MethodName := ⟨RX0, "missedOfOwn", "(I)I"⟩
abbrev cX0_signsOfOthers : ByteArray := prog_2_method_30_code
def yX0_signsOfOthers : MethodName := ⟨RX0, "signsOfOthers", "(I)I"⟩
abbrev cX0_isLastOfSign : ByteArray := prog_2_method_31_code
def yX0_isLastOfSign : MethodName := ⟨RX0, "isLastOfSign", "(II)Z"⟩
abbrev cX0_unlikeSigns : ByteArray := prog_2_method_32_code
def yX0_unlikeSigns : MethodName := ⟨RX0, "unlikeSigns", "(I)I"⟩
abbrev cX0_mostOfOneSign : ByteArray := prog_2_method_33_code
def yX0_mostOfOneSign : MethodName := ⟨RX0, "mostOfOneSign", "(I)I"⟩
abbrev cX0_isWorn : ByteArray := prog_2_method_34_code
def yX0_isWorn : MethodName := ⟨RX0, "isWorn", "(II)Z"⟩
abbrev cX0_wornCount : ByteArray := prog_2_method_35_code
def yX0_wornCount : MethodName := ⟨RX0, "wornCount", "(I)I"⟩
abbrev cX0_wearFlap : ByteArray := prog_2_method_36_code
def yX0_wearFlap : MethodName := ⟨RX0, "wearFlap", "(II)V"⟩
abbrev cX0_mendFlap : ByteArray := prog_2_method_37_code
def yX0_mendFlap : MethodName := ⟨RX0, "mendFlap", "(II)V"⟩
abbrev cX0_flapsOnTo : ByteArray := prog_2_method_38_code
def yX0_flapsOnTo : MethodName := ⟨RX0, "flapsOnTo", "(II)I"⟩
abbrev cX0_leftOf : ByteArray := prog_2_method_39_code
def yX0_leftOf : MethodName := ⟨RX0, "leftOf", "(I)I"⟩
abbrev cX0_nearest : ByteArray := prog_2_method_40_code
def yX0_nearest : MethodName := ⟨RX0, "nearest", "(II)I"⟩
abbrev cX0_flapFor : ByteArray := prog_2_method_41_code
def yX0_flapFor : MethodName := ⟨RX0, "flapFor", "(IILFlapBoard$Tape;II)I"⟩
abbrev cX0_costOf : ByteArray := prog_2_method_42_code
def yX0_costOf : MethodName := ⟨RX0, "costOf", "(IILFlapBoard$Tape;II)I"⟩
abbrev cX0_missesOf : ByteArray := prog_2_method_43_code
def yX0_missesOf : MethodName := ⟨RX0, "missesOf", "(IILFlapBoard$Tape;II)I"⟩
abbrev cX0_wantSigns : ByteArray := prog_2_method_44_code
def yX0_wantSigns : MethodName := ⟨RX0, "wantSigns", "(ILFlapBoard$Tape;II)I"⟩
abbrev cX0_scrollUp : ByteArray := prog_2_method_45_code
def yX0_scrollUp : MethodName := ⟨RX0, "scrollUp", "(LFlapBoard$Tape;II)I"⟩
abbrev cX0_wantFlap : ByteArray := prog_2_method_46_code
def yX0_wantFlap : MethodName := ⟨RX0, "wantFlap", "(II)I"⟩
abbrev cX0_wantHome : ByteArray := prog_2_method_47_code
def yX0_wantHome : MethodName := ⟨RX0, "wantHome", "(I)V"⟩
abbrev cX0_showSigns : ByteArray := prog_2_method_48_code
def yX0_showSigns : MethodName := ⟨RX0, "showSigns", "(ILFlapBoard$Tape;II)V"⟩
abbrev cX0_stepOn : ByteArray := prog_2_method_49_code
def yX0_stepOn : MethodName := ⟨RX0, "stepOn", "(I)I"⟩
abbrev cX0_leftOfAll : ByteArray := prog_2_method_50_code
def yX0_leftOfAll : MethodName := ⟨RX0, "leftOfAll", "(Z)I"⟩
abbrev cX0_mostLeft : ByteArray := prog_2_method_51_code
def yX0_mostLeft : MethodName := ⟨RX0, "mostLeft", "()I"⟩
abbrev cX0_emptyLog : ByteArray := prog_2_method_52_code
def yX0_emptyLog : MethodName := ⟨RX0, "emptyLog", "()V"⟩
abbrev cX0_entryStart : ByteArray := prog_2_method_53_code
def yX0_entryStart : MethodName := ⟨RX0, "entryStart", "(I)I"⟩
abbrev cX0_entryCount : ByteArray := prog_2_method_54_code
def yX0_entryCount : MethodName := ⟨RX0, "entryCount", "()I"⟩
abbrev cX0_entryAt : ByteArray := prog_2_method_55_code
def yX0_entryAt : MethodName := ⟨RX0, "entryAt", "(IIII)I"⟩
abbrev cX0_journey : ByteArray := prog_2_method_56_code
def yX0_journey : MethodName := ⟨RX0, "journey", "(I)I"⟩
abbrev cX0_logSize : ByteArray := prog_2_method_57_code
def yX0_logSize : MethodName := ⟨RX0, "logSize", "(I)I"⟩
abbrev cX0_unlikeEntries : ByteArray := prog_2_method_58_code
def yX0_unlikeEntries : MethodName := ⟨RX0, "unlikeEntries", "(I)I"⟩
abbrev cX0_entriesOf : ByteArray := prog_2_method_59_code
def yX0_entriesOf : MethodName := ⟨RX0, "entriesOf", "(IIZ)I"⟩
abbrev cX0_journeyChange : ByteArray := prog_2_method_60_code
def yX0_journeyChange : MethodName := ⟨RX0, "journeyChange", "(III)I"⟩
def RX1 : String := "FlapBoard$BoardText"
abbrev cX1_readInto : ByteArray := prog_3_method_2_code
def yX1_readInto : MethodName := ⟨RX1, "readInto", "(LFlapBoard$Board;LFlapBoard$Tape;)V"⟩
abbrev cX1_readHead : ByteArray := prog_3_method_3_code
def yX1_readHead : MethodName := ⟨RX1, "readHead", "(LFlapBoard$Board;LFlapBoard$Tape;)V"⟩
abbrev cX1_readPart : ByteArray := prog_3_method_4_code
def yX1_readPart : MethodName := ⟨RX1, "readPart", "(LFlapBoard$Board;LFlapBoard$Tape;)V"⟩
abbrev cX1_readDrum : ByteArray := prog_3_method_5_code
def yX1_readDrum : MethodName := ⟨RX1, "readDrum", "(LFlapBoard$Board;LFlapBoard$Tape;)V"⟩
abbrev cX1_readCells : ByteArray := prog_3_method_6_code
def yX1_readCells : MethodName := ⟨RX1, "readCells", "(LFlapBoard$Board;LFlapBoard$Tape;)V"⟩
abbrev cX1_readWorn : ByteArray := prog_3_method_7_code
def yX1_readWorn : MethodName := ⟨RX1, "readWorn", "(LFlapBoard$Board;LFlapBoard$Tape;)V"⟩
abbrev cX1_readRow : ByteArray := prog_3_method_8_code
def yX1_readRow : MethodName := ⟨RX1, "readRow", "(LFlapBoard$Board;LFlapBoard$Tape;)V"⟩
abbrev cX1_readLose : ByteArray := prog_3_method_9_code
def yX1_readLose : MethodName := ⟨RX1, "readLose", "(LFlapBoard$Board;LFlapBoard$Tape;)V"⟩
def RX2 : String := "FlapBoard$Motor"
def TX2 : u_T := fun k => match k with
  | 0 => ("FlapBoard$Motor", "firstByLeft", "[I", true)
  | 1 => ("FlapBoard$Motor", "nextCell", "[I", true)
  | 2 => ("FlapBoard$Motor", "chosen", "[I", true)
  | 3 => ("FlapBoard$Motor", "size", "I", false)
  | 4 => ("FlapBoard$Motor", "current", "I", false)
  | 5 => ("FlapBoard$Motor", "ticks", "I", false)
  | 6 => ("FlapBoard$Motor", "steps", "I", false)
  | 7 => ("FlapBoard$Motor", "clatter", "I", false)
  | 8 => ("FlapBoard$Motor", "mostCurrent", "I", false)
  | 9 => ("FlapBoard$Motor", "loudestTick", "I", false)
  | 10 => ("FlapBoard$Motor", "loudestClatter", "I", false)
  | _ => ("FlapBoard$Motor", "found", "I", false)
def tyX2 : Nat → FieldType := fun k => match k with
  | 0 => .array .int
  | 1 => .array .int
  | 2 => .array .int
  | 3 => .int
  | 4 => .int
  | 5 => .int
  | 6 => .int
  | 7 => .int
  | 8 => .int
  | 9 => .int
  | 10 => .int
  | _ => .int
theorem nmX2 : ∀ a, a < 12 → ∀ b, b < 12 → a ≠ b → (TX2 a).2.1 ≠ (TX2 b).2.1 := by decide +kernel
theorem tyX2_ok : ∀ k, k < 12 → parseFieldDescriptor (TX2 k).2.2.1 = some (tyX2 k) := by decide +kernel
abbrev cX2_init : ByteArray := prog_4_method_1_code
def yX2_init : MethodName := ⟨RX2, "<init>", "()V"⟩
abbrev cX2_turn : ByteArray := prog_4_method_2_code
def yX2_turn : MethodName := ⟨RX2, "turn", "(LFlapBoard$Board;I)V"⟩
abbrev cX2_startCounting : ByteArray := prog_4_method_3_code
def yX2_startCounting : MethodName := ⟨RX2, "startCounting", "()V"⟩
abbrev cX2_countTick : ByteArray := prog_4_method_4_code
def yX2_countTick : MethodName := ⟨RX2, "countTick", "(I)V"⟩
abbrev cX2_choose : ByteArray := prog_4_method_5_code
def yX2_choose : MethodName := ⟨RX2, "choose", "(LFlapBoard$Board;)V"⟩
abbrev cX2_sortByLeft : ByteArray := prog_4_method_6_code
def yX2_sortByLeft : MethodName := ⟨RX2, "sortByLeft", "(LFlapBoard$Board;)I"⟩
abbrev cX2_chosenBits : ByteArray := prog_4_method_7_code
def yX2_chosenBits : MethodName := ⟨RX2, "chosenBits", "()J"⟩
def RX3 : String := "FlapBoard$Past"
def TX3 : u_T := fun k => match k with
  | 0 => ("FlapBoard$Past", "boards", "[LFlapBoard$Board;", true)
  | 1 => ("FlapBoard$Past", "size", "I", false)
  | _ => ("FlapBoard$Past", "next", "I", false)
def tyX3 : Nat → FieldType := fun k => match k with
  | 0 => .array (.object "FlapBoard$Board")
  | 1 => .int
  | _ => .int
theorem nmX3 : ∀ a, a < 3 → ∀ b, b < 3 → a ≠ b → (TX3 a).2.1 ≠ (TX3 b).2.1 := by decide +kernel
theorem tyX3_ok : ∀ k, k < 3 → parseFieldDescriptor (TX3 k).2.2.1 = some (tyX3 k) := by decide +kernel
abbrev cX3_init : ByteArray := prog_5_method_1_code
def yX3_init : MethodName := ⟨RX3, "<init>", "()V"⟩
abbrev cX3_push : ByteArray := prog_5_method_2_code
def yX3_push : MethodName := ⟨RX3, "push", "(LFlapBoard$Board;)V"⟩
abbrev cX3_pop : ByteArray := prog_5_method_3_code
def yX3_pop : MethodName := ⟨RX3, "pop", "(LFlapBoard$Board;)Z"⟩
def RX4 : String := "FlapBoard$Program"
def TX4 : u_T := fun k => match k with
  | 0 => ("FlapBoard$Program", "kinds", "[I", true)
  | 1 => ("FlapBoard$Program", "ones", "[I", true)
  | 2 => ("FlapBoard$Program", "twos", "[I", true)
  | 3 => ("FlapBoard$Program", "quoted", "[I", true)
  | 4 => ("FlapBoard$Program", "ends", "[I", true)
  | 5 => ("FlapBoard$Program", "open", "[I", true)
  | 6 => ("FlapBoard$Program", "again", "[I", true)
  | 7 => ("FlapBoard$Program", "depth", "I", false)
  | 8 => ("FlapBoard$Program", "size", "I", false)
  | _ => ("FlapBoard$Program", "at", "I", false)
def tyX4 : Nat → FieldType := fun k => match k with
  | 0 => .array .int
  | 1 => .array .int
  | 2 => .array .int
  | 3 => .array .int
  | 4 => .array .int
  | 5 => .array .int
  | 6 => .array .int
  | 7 => .int
  | 8 => .int
  | _ => .int
theorem nmX4 : ∀ a, a < 10 → ∀ b, b < 10 → a ≠ b → (TX4 a).2.1 ≠ (TX4 b).2.1 := by decide +kernel
theorem tyX4_ok : ∀ k, k < 10 → parseFieldDescriptor (TX4 k).2.2.1 = some (tyX4 k) := by decide +kernel
abbrev cX4_init : ByteArray := prog_6_method_1_code
def yX4_init : MethodName := ⟨RX4, "<init>", "()V"⟩
abbrev cX4_hasStep : ByteArray := prog_6_method_2_code
def yX4_hasStep : MethodName := ⟨RX4, "hasStep", "(I)Z"⟩
abbrev cX4_kindOf : ByteArray := prog_6_method_3_code
def yX4_kindOf : MethodName := ⟨RX4, "kindOf", "(I)I"⟩
abbrev cX4_oneOf : ByteArray := prog_6_method_4_code
def yX4_oneOf : MethodName := ⟨RX4, "oneOf", "(I)I"⟩
abbrev cX4_twoOf : ByteArray := prog_6_method_5_code
def yX4_twoOf : MethodName := ⟨RX4, "twoOf", "(I)I"⟩
abbrev cX4_quotedOf : ByteArray := prog_6_method_6_code
def yX4_quotedOf : MethodName := ⟨RX4, "quotedOf", "(I)I"⟩
abbrev cX4_endOf : ByteArray := prog_6_method_7_code
def yX4_endOf : MethodName := ⟨RX4, "endOf", "(I)I"⟩
abbrev cX4_startDoing : ByteArray := prog_6_method_8_code
def yX4_startDoing : MethodName := ⟨RX4, "startDoing", "()V"⟩
abbrev cX4_goOn : ByteArray := prog_6_method_9_code
def yX4_goOn : MethodName := ⟨RX4, "goOn", "()V"⟩
abbrev cX4_readFrom : ByteArray := prog_6_method_10_code
def yX4_readFrom : MethodName := ⟨RX4, "readFrom", "(LFlapBoard$Tape;LFlapBoard$Board;)V"⟩
abbrev cX4_readStep : ByteArray := prog_6_method_11_code
def yX4_readStep : MethodName := ⟨RX4, "readStep", "(ILFlapBoard$Tape;LFlapBoard$Board;)V"⟩
abbrev cX4_openTimes : ByteArray := prog_6_method_12_code
def yX4_openTimes : MethodName := ⟨RX4, "openTimes", "(LFlapBoard$Tape;)V"⟩
abbrev cX4_addStep : ByteArray := prog_6_method_13_code
def yX4_addStep : MethodName := ⟨RX4, "addStep", "(IIII)V"⟩
abbrev cX4_goesOn : ByteArray := prog_6_method_14_code
def yX4_goesOn : MethodName := ⟨RX4, "goesOn", "(LFlapBoard$Tape;)Z"⟩
abbrev cX4_closeTimes : ByteArray := prog_6_method_15_code
def yX4_closeTimes : MethodName := ⟨RX4, "closeTimes", "(I)V"⟩
def RX5 : String := "FlapBoard$Tape"
def TX5 : u_T := fun k => match k with
  | 0 => ("FlapBoard$Tape", "bytes", "[I", true)
  | 1 => ("FlapBoard$Tape", "size", "I", false)
  | 2 => ("FlapBoard$Tape", "at", "I", false)
  | 3 => ("FlapBoard$Tape", "begun", "I", false)
  | 4 => ("FlapBoard$Tape", "quotedFrom", "I", false)
  | 5 => ("FlapBoard$Tape", "quotedSize", "I", false)
  | _ => ("FlapBoard$Tape", "fault", "I", false)
def tyX5 : Nat → FieldType := fun k => match k with
  | 0 => .array .int
  | 1 => .int
  | 2 => .int
  | 3 => .int
  | 4 => .int
  | 5 => .int
  | _ => .int
theorem nmX5 : ∀ a, a < 7 → ∀ b, b < 7 → a ≠ b → (TX5 a).2.1 ≠ (TX5 b).2.1 := by decide +kernel
theorem tyX5_ok : ∀ k, k < 7 → parseFieldDescriptor (TX5 k).2.2.1 = some (tyX5 k) := by decide +kernel
abbrev cX5_init : ByteArray := prog_7_method_1_code
def yX5_init : MethodName := ⟨RX5, "<init>", "()V"⟩
abbrev cX5_addNumber : ByteArray := prog_7_method_2_code
def yX5_addNumber : MethodName := ⟨RX5, "addNumber", "(I)V"⟩
abbrev cX5_byteAt : ByteArray := prog_7_method_3_code
def yX5_byteAt : MethodName := ⟨RX5, "byteAt", "(I)I"⟩
abbrev cX5_startReading : ByteArray := prog_7_method_4_code
def yX5_startReading : MethodName := ⟨RX5, "startReading", "()V"⟩
abbrev cX5_isSound : ByteArray := prog_7_method_5_code
def yX5_isSound : MethodName := ⟨RX5, "isSound", "()Z"⟩
abbrev cX5_blame : ByteArray := prog_7_method_6_code
def yX5_blame : MethodName := ⟨RX5, "blame", "(II)V"⟩
abbrev cX5_peek : ByteArray := prog_7_method_7_code
def yX5_peek : MethodName := ⟨RX5, "peek", "()I"⟩
abbrev cX5_takeByte : ByteArray := prog_7_method_8_code
def yX5_takeByte : MethodName := ⟨RX5, "takeByte", "(I)V"⟩
abbrev cX5_takeWord : ByteArray := prog_7_method_9_code
def yX5_takeWord : MethodName := ⟨RX5, "takeWord", "()I"⟩
abbrev cX5_takeThisWord : ByteArray := prog_7_method_10_code
def yX5_takeThisWord : MethodName := ⟨RX5, "takeThisWord", "(I)V"⟩
abbrev cX5_wordRead : ByteArray := prog_7_method_11_code
def yX5_wordRead : MethodName := ⟨RX5, "wordRead", "()I"⟩
abbrev cX5_isRead : ByteArray := prog_7_method_12_code
def yX5_isRead : MethodName := ⟨RX5, "isRead", "(Ljava/lang/String;)Z"⟩
abbrev cX5_takeNumber : ByteArray := prog_7_method_13_code
def yX5_takeNumber : MethodName := ⟨RX5, "takeNumber", "(II)I"⟩
abbrev cX5_takeQuoted : ByteArray := prog_7_method_14_code
def yX5_takeQuoted : MethodName := ⟨RX5, "takeQuoted", "(II)V"⟩
def RX6 : String := "FlapBoard"
def TX6 : u_T := fun k => match k with
  | 0 => ("FlapBoard", "tape", "LFlapBoard$Tape;", true)
  | 1 => ("FlapBoard", "board", "LFlapBoard$Board;", true)
  | 2 => ("FlapBoard", "trial", "LFlapBoard$Board;", true)
  | 3 => ("FlapBoard", "motor", "LFlapBoard$Motor;", true)
  | 4 => ("FlapBoard", "program", "LFlapBoard$Program;", true)
  | 5 => ("FlapBoard", "past", "LFlapBoard$Past;", true)
  | _ => ("FlapBoard", "shelves", "[LFlapBoard$Board;", true)
def tyX6 : Nat → FieldType := fun k => match k with
  | 0 => .object "FlapBoard$Tape"
  | 1 => .object "FlapBoard$Board"
  | 2 => .object "FlapBoard$Board"
  | 3 => .object "FlapBoard$Motor"
  | 4 => .object "FlapBoard$Program"
  | 5 => .object "FlapBoard$Past"
  | _ => .array (.object "FlapBoard$Board")
theorem nmX6 : ∀ a, a < 7 → ∀ b, b < 7 → a ≠ b → (TX6 a).2.1 ≠ (TX6 b).2.1 := by decide +kernel
theorem tyX6_ok : ∀ k, k < 7 → parseFieldDescriptor (TX6 k).2.2.1 = some (tyX6 k) := by decide +kernel
abbrev cX6_init : ByteArray := prog_1_method_1_code
def yX6_init : MethodName := ⟨RX6, "<init>", "()V"⟩
abbrev cX6_feed : ByteArray := prog_1_method_2_code
def yX6_feed : MethodName := ⟨RX6, "feed", "(IIIII)I"⟩
abbrev cX6_end : ByteArray := prog_1_method_3_code
def yX6_end : MethodName := ⟨RX6, "end", "(I)I"⟩
abbrev cX6_tell : ByteArray := prog_1_method_4_code
def yX6_tell : MethodName := ⟨RX6, "tell", "()I"⟩
abbrev cX6_row : ByteArray := prog_1_method_5_code
def yX6_row : MethodName := ⟨RX6, "row", "(I)I"⟩
abbrev cX6_scroll : ByteArray := prog_1_method_6_code
def yX6_scroll : MethodName := ⟨RX6, "scroll", "()I"⟩
abbrev cX6_tick : ByteArray := prog_1_method_7_code
def yX6_tick : MethodName := ⟨RX6, "tick", "(I)I"⟩
abbrev cX6_settle : ByteArray := prog_1_method_8_code
def yX6_settle : MethodName := ⟨RX6, "settle", "()I"⟩
abbrev cX6_lose : ByteArray := prog_1_method_9_code
def yX6_lose : MethodName := ⟨RX6, "lose", "(II)I"⟩
abbrev cX6_wear : ByteArray := prog_1_method_10_code
def yX6_wear : MethodName := ⟨RX6, "wear", "(II)I"⟩
abbrev cX6_mend : ByteArray := prog_1_method_11_code
def yX6_mend : MethodName := ⟨RX6, "mend", "(II)I"⟩
abbrev cX6_limit : ByteArray := prog_1_method_12_code
def yX6_limit : MethodName := ⟨RX6, "limit", "(I)I"⟩
abbrev cX6_exchange : ByteArray := prog_1_method_13_code
def yX6_exchange : MethodName := ⟨RX6, "exchange", "(III)I"⟩
abbrev cX6_run : ByteArray := prog_1_method_14_code
def yX6_run : MethodName := ⟨RX6, "run", "()I"⟩
abbrev cX6_whyNotProgram : ByteArray := prog_1_method_15_code
def yX6_whyNotProgram : MethodName := ⟨RX6, "whyNotProgram", "()I"⟩
abbrev cX6_doProgram : ByteArray := prog_1_method_16_code
def yX6_doProgram : MethodName := ⟨RX6, "doProgram", "()I"⟩
abbrev cX6_doStep : ByteArray := prog_1_method_17_code
def yX6_doStep : MethodName := ⟨RX6, "doStep", "(I)V"⟩
abbrev cX6_undo : ByteArray := prog_1_method_18_code
def yX6_undo : MethodName := ⟨RX6, "undo", "()I"⟩
abbrev cX6_keep : ByteArray := prog_1_method_19_code
def yX6_keep : MethodName := ⟨RX6, "keep", "(I)I"⟩
abbrev cX6_back : ByteArray := prog_1_method_20_code
def yX6_back : MethodName := ⟨RX6, "back", "(I)I"⟩
abbrev cX6_isShelf : ByteArray := prog_1_method_21_code
def yX6_isShelf : MethodName := ⟨RX6, "isShelf", "(I)Z"⟩
abbrev cX6_shelvesUsed : ByteArray := prog_1_method_22_code
def yX6_shelvesUsed : MethodName := ⟨RX6, "shelvesUsed", "()I"⟩
abbrev cX6_cell : ByteArray := prog_1_method_23_code
def yX6_cell : MethodName := ⟨RX6, "cell", "(II)I"⟩
abbrev cX6_worn : ByteArray := prog_1_method_24_code
def yX6_worn : MethodName := ⟨RX6, "worn", "(I)J"⟩
abbrev cX6_drum : ByteArray := prog_1_method_25_code
def yX6_drum : MethodName := ⟨RX6, "drum", "(II)I"⟩
abbrev cX6_sign : ByteArray := prog_1_method_26_code
def yX6_sign : MethodName := ⟨RX6, "sign", "(II)I"⟩
abbrev cX6_at : ByteArray := prog_1_method_27_code
def yX6_at : MethodName := ⟨RX6, "at", "(III)I"⟩
abbrev cX6_which : ByteArray := prog_1_method_28_code
def yX6_which : MethodName := ⟨RX6, "which", "(I)J"⟩
abbrev cX6_isSuch : ByteArray := prog_1_method_29_code
def yX6_isSuch : MethodName := ⟨RX6, "isSuch", "(II)Z"⟩
abbrev cX6_left : ByteArray := prog_1_method_30_code
def yX6_left : MethodName := ⟨RX6, "left", "(I)I"⟩
abbrev cX6_leastTicks : ByteArray := prog_1_method_31_code
def yX6_leastTicks : MethodName := ⟨RX6, "leastTicks", "()I"⟩
abbrev cX6_when : ByteArray := prog_1_method_32_code
def yX6_when : MethodName := ⟨RX6, "when", "(I)I"⟩
abbrev cX6_loudest : ByteArray := prog_1_method_33_code
def yX6_loudest : MethodName := ⟨RX6, "loudest", "(I)I"⟩
abbrev cX6_tryToSettle : ByteArray := prog_1_method_34_code
def yX6_tryToSettle : MethodName := ⟨RX6, "tryToSettle", "()V"⟩
abbrev cX6_total : ByteArray := prog_1_method_35_code
def yX6_total : MethodName := ⟨RX6, "total", "(I)I"⟩
abbrev cX6_rests : ByteArray := prog_1_method_36_code
def yX6_rests : MethodName := ⟨RX6, "rests", "(I)I"⟩
abbrev cX6_cost : ByteArray := prog_1_method_37_code
def yX6_cost : MethodName := ⟨RX6, "cost", "(I)I"⟩
abbrev cX6_best : ByteArray := prog_1_method_38_code
def yX6_best : MethodName := ⟨RX6, "best", "(II)I"⟩
abbrev cX6_place : ByteArray := prog_1_method_39_code
def yX6_place : MethodName := ⟨RX6, "place", "(II)I"⟩
abbrev cX6_whyNotRow : ByteArray := prog_1_method_40_code
def yX6_whyNotRow : MethodName := ⟨RX6, "whyNotRow", "(I)I"⟩
abbrev cX6_isRowText : ByteArray := prog_1_method_41_code
def yX6_isRowText : MethodName := ⟨RX6, "isRowText", "(II)Z"⟩
abbrev cX6_isSign : ByteArray := prog_1_method_42_code
def yX6_isSign : MethodName := ⟨RX6, "isSign", "(I)Z"⟩
abbrev cX6_log : ByteArray := prog_1_method_43_code
def yX6_log : MethodName := ⟨RX6, "log", "(II)I"⟩
abbrev cX6_often : ByteArray := prog_1_method_44_code
def yX6_often : MethodName := ⟨RX6, "often", "(IIZ)I"⟩
abbrev cX6_usual : ByteArray := prog_1_method_45_code
def yX6_usual : MethodName := ⟨RX6, "usual", "(II)I"⟩
abbrev cX6_better : ByteArray := prog_1_method_46_code
def yX6_better : MethodName := ⟨RX6, "better", "(II)I"⟩
abbrev cX6_farthest : ByteArray := prog_1_method_47_code
def yX6_farthest : MethodName := ⟨RX6, "farthest", "(II)I"⟩
abbrev cX6_lacks : ByteArray := prog_1_method_48_code
def yX6_lacks : MethodName := ⟨RX6, "lacks", "(II)I"⟩
abbrev cX6_unlike : ByteArray := prog_1_method_49_code
def yX6_unlike : MethodName := ⟨RX6, "unlike", "(II)I"⟩
abbrev cX6_letter : ByteArray := prog_1_method_50_code
def yX6_letter : MethodName := ⟨RX6, "letter", "(II)I"⟩
abbrev cX6_digest : ByteArray := prog_1_method_51_code
def yX6_digest : MethodName := ⟨RX6, "digest", "()J"⟩
abbrev cX6_count : ByteArray := prog_1_method_52_code
def yX6_count : MethodName := ⟨RX6, "count", "(I)I"⟩
abbrev cX6_onFrom : ByteArray := prog_1_method_53_code
def yX6_onFrom : MethodName := ⟨RX6, "onFrom", "(III)I"⟩
abbrev cX6_behind : ByteArray := prog_1_method_54_code
def yX6_behind : MethodName := ⟨RX6, "behind", "(II)I"⟩
def RX7 : String := "FlapBoardModel"
def TX7 : u_T := fun k => match k with
  | 0 => ("FlapBoardModel", "now", "[J", true)
  | 1 => ("FlapBoardModel", "was", "[J", true)
  | 2 => ("FlapBoardModel", "undone", "I", false)
  | 3 => ("FlapBoardModel", "kept", "[J", true)
  | 4 => ("FlapBoardModel", "isKept", "[Z", true)
  | 5 => ("FlapBoardModel", "aside", "[J", true)
  | 6 => ("FlapBoardModel", "turning", "J", false)
  | 7 => ("FlapBoardModel", "turnMany", "I", false)
  | 8 => ("FlapBoardModel", "turnCurrent", "I", false)
  | 9 => ("FlapBoardModel", "wanted", "[I", true)
  | 10 => ("FlapBoardModel", "costs", "I", false)
  | 11 => ("FlapBoardModel", "misses", "I", false)
  | 12 => ("FlapBoardModel", "tape", "[B", true)
  | 13 => ("FlapBoardModel", "taped", "I", false)
  | 14 => ("FlapBoardModel", "spot", "I", false)
  | 15 => ("FlapBoardModel", "wrong", "I", false)
  | 16 => ("FlapBoardModel", "number", "I", false)
  | 17 => ("FlapBoardModel", "numberAt", "I", false)
  | 18 => ("FlapBoardModel", "quoted", "I", false)
  | 19 => ("FlapBoardModel", "quotedMany", "I", false)
  | 20 => ("FlapBoardModel", "loseCell", "I", false)
  | 21 => ("FlapBoardModel", "done", "I", false)
  | _ => ("FlapBoardModel", "deep", "I", false)
def tyX7 : Nat → FieldType := fun k => match k with
  | 0 => .array .long
  | 1 => .array .long
  | 2 => .int
  | 3 => .array .long
  | 4 => .array .boolean
  | 5 => .array .long
  | 6 => .long
  | 7 => .int
  | 8 => .int
  | 9 => .array .int
  | 10 => .int
  | 11 => .int
  | 12 => .array .byte
  | 13 => .int
  | 14 => .int
  | 15 => .int
  | 16 => .int
  | 17 => .int
  | 18 => .int
  | 19 => .int
  | 20 => .int
  | 21 => .int
  | _ => .int
theorem nmX7 : ∀ a, a < 23 → ∀ b, b < 23 → a ≠ b → (TX7 a).2.1 ≠ (TX7 b).2.1 := by decide +kernel
theorem tyX7_ok : ∀ k, k < 23 → parseFieldDescriptor (TX7 k).2.2.1 = some (tyX7 k) := by decide +kernel
abbrev cX7_init : ByteArray := prog_9_method_1_code
def yX7_init : MethodName := ⟨RX7, "<init>", "()V"⟩
abbrev cX7_in : ByteArray := prog_9_method_2_code
def yX7_in : MethodName := ⟨RX7, "in", "(JJJ)Z"⟩
abbrev cX7_isIn : ByteArray := prog_9_method_3_code
def yX7_isIn : MethodName := ⟨RX7, "isIn", "(JI)Z"⟩
abbrev cX7_isSign : ByteArray := prog_9_method_4_code
def yX7_isSign : MethodName := ⟨RX7, "isSign", "(I)Z"⟩
abbrev cX7_rows : ByteArray := prog_9_method_5_code
def yX7_rows : MethodName := ⟨RX7, "rows", "()I"⟩
abbrev cX7_wide : ByteArray := prog_9_method_6_code
def yX7_wide : MethodName := ⟨RX7, "wide", "()I"⟩
abbrev cX7_cells : ByteArray := prog_9_method_7_code
def yX7_cells : MethodName := ⟨RX7, "cells", "()I"⟩
abbrev cX7_drums : ByteArray := prog_9_method_8_code
def yX7_drums : MethodName := ⟨RX7, "drums", "()I"⟩
abbrev cX7_isBoard : ByteArray := prog_9_method_9_code
def yX7_isBoard : MethodName := ⟨RX7, "isBoard", "()Z"⟩
abbrev cX7_isCell : ByteArray := prog_9_method_10_code
def yX7_isCell : MethodName := ⟨RX7, "isCell", "(I)Z"⟩
abbrev cX7_isRow : ByteArray := prog_9_method_11_code
def yX7_isRow : MethodName := ⟨RX7, "isRow", "(I)Z"⟩
abbrev cX7_isDrum : ByteArray := prog_9_method_12_code
def yX7_isDrum : MethodName := ⟨RX7, "isDrum", "(I)Z"⟩
abbrev cX7_of : ByteArray := prog_9_method_13_code
def yX7_of : MethodName := ⟨RX7, "of", "(II)I"⟩
abbrev cX7_sets : ByteArray := prog_9_method_14_code
def yX7_sets : MethodName := ⟨RX7, "sets", "(IIJ)V"⟩
abbrev cX7_wornOf : ByteArray := prog_9_method_15_code
def yX7_wornOf : MethodName := ⟨RX7, "wornOf", "(I)J"⟩
abbrev cX7_currentOf : ByteArray := prog_9_method_16_code
def yX7_currentOf : MethodName := ⟨RX7, "currentOf", "(I)I"⟩
abbrev cX7_flapsOf : ByteArray := prog_9_method_17_code
def yX7_flapsOf : MethodName := ⟨RX7, "flapsOf", "(I)I"⟩
abbrev cX7_signOf : ByteArray := prog_9_method_18_code
def yX7_signOf : MethodName := ⟨RX7, "signOf", "(II)I"⟩
abbrev cX7_flaps : ByteArray := prog_9_method_19_code
def yX7_flaps : MethodName := ⟨RX7, "flaps", "(I)I"⟩
abbrev cX7_current : ByteArray := prog_9_method_20_code
def yX7_current : MethodName := ⟨RX7, "current", "(I)I"⟩
abbrev cX7_on : ByteArray := prog_9_method_21_code
def yX7_on : MethodName := ⟨RX7, "on", "(III)I"⟩
abbrev cX7_leftOf : ByteArray := prog_9_method_22_code
def yX7_leftOf : MethodName := ⟨RX7, "leftOf", "(I)I"⟩
abbrev cX7_bits : ByteArray := prog_9_method_23_code
def yX7_bits : MethodName := ⟨RX7, "bits", "(J)I"⟩
abbrev cX7_steps : ByteArray := prog_9_method_24_code
def yX7_steps : MethodName := ⟨RX7, "steps", "(I)V"⟩
abbrev cX7_findsTurning : ByteArray := prog_9_method_25_code
def yX7_findsTurning : MethodName := ⟨RX7, "findsTurning", "()V"⟩
abbrev cX7_ticks : ByteArray := prog_9_method_26_code
def yX7_ticks : MethodName := ⟨RX7, "ticks", "()I"⟩
abbrev cX7_flapFor : ByteArray := prog_9_method_27_code
def yX7_flapFor : MethodName := ⟨RX7, "flapFor", "(II)I"⟩
abbrev cX7_wantsFlap : ByteArray := prog_9_method_28_code
def yX7_wantsFlap : MethodName := ⟨RX7, "wantsFlap", "(IIZ)V"⟩
abbrev cX7_wantsSigns : ByteArray := prog_9_method_29_code
def yX7_wantsSigns : MethodName := ⟨RX7, "wantsSigns", "(IIIZ)I"⟩
abbrev cX7_scrolls : ByteArray := prog_9_method_30_code
def yX7_scrolls : MethodName := ⟨RX7, "scrolls", "(II)I"⟩
abbrev cX7_keepsAct : ByteArray := prog_9_method_31_code
def yX7_keepsAct : MethodName := ⟨RX7, "keepsAct", "()V"⟩
abbrev cX7_areSigns : ByteArray := prog_9_method_32_code
def yX7_areSigns : MethodName := ⟨RX7, "areSigns", "(II)Z"⟩
abbrev cX7_isRowText : ByteArray := prog_9_method_33_code
def yX7_isRowText : MethodName := ⟨RX7, "isRowText", "(I)Z"⟩
abbrev cX7_row : ByteArray := prog_9_method_34_code
def yX7_row : MethodName := ⟨RX7, "row", "(I)I"⟩
abbrev cX7_scroll : ByteArray := prog_9_method_35_code
def yX7_scroll : MethodName := ⟨RX7, "scroll", "()I"⟩
abbrev cX7_tick : ByteArray := prog_9_method_36_code
def yX7_tick : MethodName := ⟨RX7, "tick", "(I)I"⟩
abbrev cX7_settles : ByteArray := prog_9_method_37_code
def yX7_settles : MethodName := ⟨RX7, "settles", "()I"⟩
abbrev cX7_settle : ByteArray := prog_9_method_38_code
def yX7_settle : MethodName := ⟨RX7, "settle", "()I"⟩
abbrev cX7_lose : ByteArray := prog_9_method_39_code
def yX7_lose : MethodName := ⟨RX7, "lose", "(II)I"⟩
abbrev cX7_isFlap : ByteArray := prog_9_method_40_code
def yX7_isFlap : MethodName := ⟨RX7, "isFlap", "(II)Z"⟩
abbrev cX7_wears : ByteArray := prog_9_method_41_code
def yX7_wears : MethodName := ⟨RX7, "wears", "(II)V"⟩
abbrev cX7_wear : ByteArray := prog_9_method_42_code
def yX7_wear : MethodName := ⟨RX7, "wear", "(II)I"⟩
abbrev cX7_mend : ByteArray := prog_9_method_43_code
def yX7_mend : MethodName := ⟨RX7, "mend", "(II)I"⟩
abbrev cX7_limit : ByteArray := prog_9_method_44_code
def yX7_limit : MethodName := ⟨RX7, "limit", "(I)I"⟩
abbrev cX7_exchange : ByteArray := prog_9_method_45_code
def yX7_exchange : MethodName := ⟨RX7, "exchange", "(III)I"⟩
abbrev cX7_undo : ByteArray := prog_9_method_46_code
def yX7_undo : MethodName := ⟨RX7, "undo", "()I"⟩
abbrev cX7_keep : ByteArray := prog_9_method_47_code
def yX7_keep : MethodName := ⟨RX7, "keep", "(I)I"⟩
abbrev cX7_back : ByteArray := prog_9_method_48_code
def yX7_back : MethodName := ⟨RX7, "back", "(I)I"⟩
abbrev cX7_cell : ByteArray := prog_9_method_49_code
def yX7_cell : MethodName := ⟨RX7, "cell", "(II)I"⟩
abbrev cX7_worn : ByteArray := prog_9_method_50_code
def yX7_worn : MethodName := ⟨RX7, "worn", "(I)J"⟩
abbrev cX7_cellsWith : ByteArray := prog_9_method_51_code
def yX7_cellsWith : MethodName := ⟨RX7, "cellsWith", "(I)I"⟩
abbrev cX7_manyWith : ByteArray := prog_9_method_52_code
def yX7_manyWith : MethodName := ⟨RX7, "manyWith", "(II)I"⟩
abbrev cX7_signsOf : ByteArray := prog_9_method_53_code
def yX7_signsOf : MethodName := ⟨RX7, "signsOf", "(IZ)I"⟩
abbrev cX7_drum : ByteArray := prog_9_method_54_code
def yX7_drum : MethodName := ⟨RX7, "drum", "(II)I"⟩
abbrev cX7_sign : ByteArray := prog_9_method_55_code
def yX7_sign : MethodName := ⟨RX7, "sign", "(II)I"⟩
abbrev cX7_signAt : ByteArray := prog_9_method_56_code
def yX7_signAt : MethodName := ⟨RX7, "signAt", "(II)I"⟩
abbrev cX7_at : ByteArray := prog_9_method_57_code
def yX7_at : MethodName := ⟨RX7, "at", "(III)I"⟩
abbrev cX7_isOther : ByteArray := prog_9_method_58_code
def yX7_isOther : MethodName := ⟨RX7, "isOther", "(I)Z"⟩
abbrev cX7_isSuch : ByteArray := prog_9_method_59_code
def yX7_isSuch : MethodName := ⟨RX7, "isSuch", "(II)Z"⟩
abbrev cX7_which : ByteArray := prog_9_method_60_code
def yX7_which : MethodName := ⟨RX7, "which", "(I)J"⟩
abbrev cX7_left : ByteArray := prog_9_method_61_code
def yX7_left : MethodName := ⟨RX7, "left", "(I)I"⟩
abbrev cX7_putsAside : ByteArray := prog_9_method_62_code
def yX7_putsAside : MethodName := ⟨RX7, "putsAside", "()V"⟩
abbrev cX7_takesBack : ByteArray := prog_9_method_63_code
def yX7_takesBack : MethodName := ⟨RX7, "takesBack", "()V"⟩
abbrev cX7_others : ByteArray := prog_9_method_64_code
def yX7_others : MethodName := ⟨RX7, "others", "()I"⟩
abbrev cX7_when : ByteArray := prog_9_method_65_code
def yX7_when : MethodName := ⟨RX7, "when", "(I)I"⟩
abbrev cX7_total : ByteArray := prog_9_method_66_code
def yX7_total : MethodName := ⟨RX7, "total", "(I)I"⟩
abbrev cX7_rests : ByteArray := prog_9_method_67_code
def yX7_rests : MethodName := ⟨RX7, "rests", "(I)I"⟩
abbrev cX7_unlike : ByteArray := prog_9_method_68_code
def yX7_unlike : MethodName := ⟨RX7, "unlike", "(II)I"⟩
abbrev cX7_digest : ByteArray := prog_9_method_69_code
def yX7_digest : MethodName := ⟨RX7, "digest", "()J"⟩
abbrev cX7_letter : ByteArray := prog_9_method_70_code
def yX7_letter : MethodName := ⟨RX7, "letter", "(II)I"⟩
abbrev cX7_count : ByteArray := prog_9_method_71_code
def yX7_count : MethodName := ⟨RX7, "count", "(I)I"⟩
abbrev cX7_asks : ByteArray := prog_9_method_72_code
def yX7_asks : MethodName := ⟨RX7, "asks", "(IIII)V"⟩
abbrev cX7_cost : ByteArray := prog_9_method_73_code
def yX7_cost : MethodName := ⟨RX7, "cost", "(I)I"⟩
abbrev cX7_endOf : ByteArray := prog_9_method_74_code
def yX7_endOf : MethodName := ⟨RX7, "endOf", "(I)I"⟩
abbrev cX7_best : ByteArray := prog_9_method_75_code
def yX7_best : MethodName := ⟨RX7, "best", "(II)I"⟩
abbrev cX7_place : ByteArray := prog_9_method_76_code
def yX7_place : MethodName := ⟨RX7, "place", "(II)I"⟩
abbrev cX7_logged : ByteArray := prog_9_method_77_code
def yX7_logged : MethodName := ⟨RX7, "logged", "(III)I"⟩
abbrev cX7_moved : ByteArray := prog_9_method_78_code
def yX7_moved : MethodName := ⟨RX7, "moved", "(III)I"⟩
abbrev cX7_journey : ByteArray := prog_9_method_79_code
def yX7_journey : MethodName := ⟨RX7, "journey", "(III)I"⟩
abbrev cX7_entries : ByteArray := prog_9_method_80_code
def yX7_entries : MethodName := ⟨RX7, "entries", "(IZ)I"⟩
abbrev cX7_log : ByteArray := prog_9_method_81_code
def yX7_log : MethodName := ⟨RX7, "log", "(II)I"⟩
abbrev cX7_often : ByteArray := prog_9_method_82_code
def yX7_often : MethodName := ⟨RX7, "often", "(IIZ)I"⟩
abbrev cX7_better : ByteArray := prog_9_method_83_code
def yX7_better : MethodName := ⟨RX7, "better", "(II)I"⟩
abbrev cX7_farthest : ByteArray := prog_9_method_84_code
def yX7_farthest : MethodName := ⟨RX7, "farthest", "(II)I"⟩
abbrev cX7_hasElsewhere : ByteArray := prog_9_method_85_code
def yX7_hasElsewhere : MethodName := ⟨RX7, "hasElsewhere", "(II)Z"⟩
abbrev cX7_lacks : ByteArray := prog_9_method_86_code
def yX7_lacks : MethodName := ⟨RX7, "lacks", "(II)I"⟩
abbrev cX7_lays : ByteArray := prog_9_method_87_code
def yX7_lays : MethodName := ⟨RX7, "lays", "(I)V"⟩
abbrev cX7_feed : ByteArray := prog_9_method_88_code
def yX7_feed : MethodName := ⟨RX7, "feed", "(IIIII)I"⟩
abbrev cX7_end : ByteArray := prog_9_method_89_code
def yX7_end : MethodName := ⟨RX7, "end", "(I)I"⟩
abbrev cX7_byteAt : ByteArray := prog_9_method_90_code
def yX7_byteAt : MethodName := ⟨RX7, "byteAt", "(I)I"⟩
abbrev cX7_nextByte : ByteArray := prog_9_method_91_code
def yX7_nextByte : MethodName := ⟨RX7, "nextByte", "()I"⟩
abbrev cX7_fails : ByteArray := prog_9_method_92_code
def yX7_fails : MethodName := ⟨RX7, "fails", "(II)Z"⟩
abbrev cX7_isWord : ByteArray := prog_9_method_93_code
def yX7_isWord : MethodName := ⟨RX7, "isWord", "(Ljava/lang/String;)Z"⟩
abbrev cX7_takesWord : ByteArray := prog_9_method_94_code
def yX7_takesWord : MethodName := ⟨RX7, "takesWord", "(Ljava/lang/String;)Z"⟩
abbrev cX7_mustWord : ByteArray := prog_9_method_95_code
def yX7_mustWord : MethodName := ⟨RX7, "mustWord", "(Ljava/lang/String;)Z"⟩
abbrev cX7_takesByte : ByteArray := prog_9_method_96_code
def yX7_takesByte : MethodName := ⟨RX7, "takesByte", "(I)Z"⟩
abbrev cX7_mustByte : ByteArray := prog_9_method_97_code
def yX7_mustByte : MethodName := ⟨RX7, "mustByte", "(I)Z"⟩
abbrev cX7_readsNumber : ByteArray := prog_9_method_98_code
def yX7_readsNumber : MethodName := ⟨RX7, "readsNumber", "(II)Z"⟩
abbrev cX7_readsQuoted : ByteArray := prog_9_method_99_code
def yX7_readsQuoted : MethodName := ⟨RX7, "readsQuoted", "(II)Z"⟩
abbrev cX7_readsDrum : ByteArray := prog_9_method_100_code
def yX7_readsDrum : MethodName := ⟨RX7, "readsDrum", "()Z"⟩
abbrev cX7_readsCells : ByteArray := prog_9_method_101_code
def yX7_readsCells : MethodName := ⟨RX7, "readsCells", "()Z"⟩
abbrev cX7_readsWorn : ByteArray := prog_9_method_102_code
def yX7_readsWorn : MethodName := ⟨RX7, "readsWorn", "()Z"⟩
abbrev cX7_readsRow : ByteArray := prog_9_method_103_code
def yX7_readsRow : MethodName := ⟨RX7, "readsRow", "()Z"⟩
abbrev cX7_readsLose : ByteArray := prog_9_method_104_code
def yX7_readsLose : MethodName := ⟨RX7, "readsLose", "()Z"⟩
abbrev cX7_readsPart : ByteArray := prog_9_method_105_code
def yX7_readsPart : MethodName := ⟨RX7, "readsPart", "()Z"⟩
abbrev cX7_readsBoard : ByteArray := prog_9_method_106_code
def yX7_readsBoard : MethodName := ⟨RX7, "readsBoard", "()Z"⟩
abbrev cX7_tell : ByteArray := prog_9_method_107_code
def yX7_tell : MethodName := ⟨RX7, "tell", "()I"⟩
abbrev cX7_isDone : ByteArray := prog_9_method_108_code
def yX7_isDone : MethodName := ⟨RX7, "isDone", "(Z)Z"⟩
abbrev cX7_goesRow : ByteArray := prog_9_method_109_code
def yX7_goesRow : MethodName := ⟨RX7, "goesRow", "(Z)Z"⟩
abbrev cX7_goesScroll : ByteArray := prog_9_method_110_code
def yX7_goesScroll : MethodName := ⟨RX7, "goesScroll", "(Z)Z"⟩
abbrev cX7_goesHome : ByteArray := prog_9_method_111_code
def yX7_goesHome : MethodName := ⟨RX7, "goesHome", "(Z)Z"⟩
abbrev cX7_goesWait : ByteArray := prog_9_method_112_code
def yX7_goesWait : MethodName := ⟨RX7, "goesWait", "(Z)Z"⟩
abbrev cX7_goesSettle : ByteArray := prog_9_method_113_code
def yX7_goesSettle : MethodName := ⟨RX7, "goesSettle", "(Z)Z"⟩
abbrev cX7_goesLose : ByteArray := prog_9_method_114_code
def yX7_goesLose : MethodName := ⟨RX7, "goesLose", "(Z)Z"⟩
abbrev cX7_goesTimes : ByteArray := prog_9_method_115_code
def yX7_goesTimes : MethodName := ⟨RX7, "goesTimes", "(Z)Z"⟩
abbrev cX7_goesOne : ByteArray := prog_9_method_116_code
def yX7_goesOne : MethodName := ⟨RX7, "goesOne", "(Z)Z"⟩
abbrev cX7_goesAll : ByteArray := prog_9_method_117_code
def yX7_goesAll : MethodName := ⟨RX7, "goesAll", "(Z)Z"⟩
abbrev cX7_goesProgram : ByteArray := prog_9_method_118_code
def yX7_goesProgram : MethodName := ⟨RX7, "goesProgram", "(Z)Z"⟩
abbrev cX7_run : ByteArray := prog_9_method_119_code
def yX7_run : MethodName := ⟨RX7, "run", "()I"⟩
abbrev cX7_loudest : ByteArray := prog_9_method_120_code
def yX7_loudest : MethodName := ⟨RX7, "loudest", "(I)I"⟩
abbrev cX7_usual : ByteArray := prog_9_method_121_code
def yX7_usual : MethodName := ⟨RX7, "usual", "(II)I"⟩
def RJ13 : String := "java/lang/Long"
abbrev cJ13_bitCount_95d88 : ByteArray := prog_10_method_50_code
def yJ13_bitCount_95d88 : MethodName := ⟨RJ13, "bitCount", "(J)I"⟩
def RJ9 : String := "java/lang/Math"
def RJ0 : String := "java/lang/String"
abbrev cJ0_length_8abf5 : ByteArray := prog_12_method_54_code
def yJ0_length_8abf5 : MethodName := ⟨RJ0, "length", "()I"⟩
abbrev cJ0_charAt_5068e : ByteArray := prog_12_method_56_code
def yJ0_charAt_5068e : MethodName := ⟨RJ0, "charAt", "(I)C"⟩
abbrev cJ0_coder_7d493 : ByteArray := prog_12_method_152_code
def yJ0_coder_7d493 : MethodName := ⟨RJ0, "coder", "()B"⟩
abbrev cJ0_isLatin1_aae02 : ByteArray := prog_12_method_154_code
def yJ0_isLatin1_aae02 : MethodName := ⟨RJ0, "isLatin1", "()Z"⟩
abbrev cJ0_checkIndex_df160 : ByteArray := prog_12_method_155_code
def yJ0_checkIndex_df160 : MethodName := ⟨RJ0, "checkIndex", "(II)V"⟩
def RJ1 : String := "java/lang/StringLatin1"
abbrev cJ1_charAt_3b067 : ByteArray := prog_13_method_2_code
def yJ1_charAt_3b067 : MethodName := ⟨RJ1, "charAt", "([BI)C"⟩
def RJ10 : String := "java/lang/System"
def RJ7 : String := "java/util/Arrays"
abbrev cJ7_fill_53178 : ByteArray := prog_16_method_103_code
def yJ7_fill_53178 : MethodName := ⟨RJ7, "fill", "([II)V"⟩
def RJ3 : String := "jdk/internal/util/Preconditions"
abbrev cJ3_checkIndex_8e157 : ByteArray := prog_17_method_11_code
def yJ3_checkIndex_8e157 : MethodName := ⟨RJ3, "checkIndex", "(IILjava/util/function/BiFunction;)I"⟩
def RL : String := "FlapBoardLaw"
abbrev cL_law : ByteArray := code
abbrev vwCl : List vw_C := [(RX0, TX0, 18), (RX2, TX2, 12), (RX3, TX3, 3), (RX4, TX4, 10), (RX5, TX5, 7), (RX6, TX6, 7), (RX7, TX7, 23)]

/-! My own rows: one list of words for every contract, the shape of a contract, calls. -/
def w_all : List Cond := lw_tbl.filter goodWord
theorem w_in {w : Cond} (k : Nat) (h : lw_tbl[k]? = some w) (hg : goodWord w = true) : w ∈ w_all := List.mem_filter.mpr ⟨List.mem_of_getElem? h, hg⟩
theorem w_inT {w : Cond} {T : List Cond} (hs : ∀ w ∈ T, w ∈ tables_1) (k : Nat) (h : T[k]? = some w) (hg : goodWord w = true) : w ∈ w_all := List.mem_filter.mpr ⟨List.mem_append_right _ (hs w (List.mem_of_getElem? h)), hg⟩
theorem w_good {w : Cond} (h : w ∈ w_all) : (w.onTables && w.keeps) = true ∨ ∃ ty, w = .arrayClass ty := good_of_word (List.mem_filter.mp h).2
theorem w_tbl {w : Cond} (h : w ∈ w_all) : w ∈ lw_tbl := (List.mem_filter.mp h).1
theorem w_gin {ws : List Cond} (h : ∀ w ∈ ws, w ∈ w_all) : GoodIn w_all ws := fun w hw => ⟨h w hw, w_good (h w hw)⟩
/-- the words of an instance method, and of a static one -/
def wd_V (y : MethodName) (bytes : ByteArray) (maxL : Nat) (ret : Option FieldType) (n : Nat) : Prop := Cond.instanceMethod y ∈ w_all ∧ Cond.selects y.cls y y ∈ w_all ∧ Cond.initialized y.cls ∈ w_all ∧ Cond.code y bytes maxL ret ∈ w_all ∧ y.cls ≠ "java/lang/invoke/MethodHandle" ∧ y.cls ≠ "java/lang/invoke/VarHandle" ∧ (parseMethodDescriptor y.desc).map (fun d => d.parameters.length) = some n
def wd_S (y : MethodName) (bytes : ByteArray) (maxL : Nat) (ret : Option FieldType) (n : Nat) : Prop := Cond.static y ∈ w_all ∧ Cond.initialized y.cls ∈ w_all ∧ Cond.code y bytes maxL ret ∈ w_all ∧ y.cls ≠ "java/lang/invoke/MethodHandle" ∧ y.cls ≠ "java/lang/invoke/VarHandle" ∧ (parseMethodDescriptor y.desc).map (fun d => d.parameters.length) = some n
def wd_I (y : MethodName) (bytes : ByteArray) (maxL : Nat) (n : Nat) : Prop := Cond.instanceMethod y ∈ w_all ∧ Cond.initialized y.cls ∈ w_all ∧ Cond.code y bytes maxL none ∈ w_all ∧ y.name = "<init>" ∧ y.cls ≠ "java/lang/invoke/MethodHandle" ∧ y.cls ≠ "java/lang/invoke/VarHandle" ∧ (parseMethodDescriptor y.desc).map (fun d => d.parameters.length) = some n
abbrev ty_l (q : Nat → ClassId) : List (ClassId × FieldType) := [(q 0, .int), (q 1, .long), (q 2, .byte), (q 3, .boolean), (q 4, .object "FlapBoard$Board")]
/-- the twelve words that both programs know, and where their constants stand -/
def st_l : List (String × Nat × String × Nat) := [("FlapBoard$Tape", 52, "board", 0), ("FlapBoard$Tape", 58, "limit", 1), ("FlapBoard$Tape", 60, "drum", 2), ("FlapBoard$Tape", 62, "cells", 3), ("FlapBoard$Tape", 64, "worn", 4), ("FlapBoard$Tape", 66, "row", 5), ("FlapBoard$Tape", 68, "lose", 6), ("FlapBoard$Tape", 70, "scroll", 7), ("FlapBoard$Tape", 72, "home", 8), ("FlapBoard$Tape", 74, "wait", 9), ("FlapBoard$Tape", 76, "settle", 10), ("FlapBoard$Tape", 78, "times", 11), ("FlapBoardModel", 344, "board", 0), ("FlapBoardModel", 349, "limit", 1), ("FlapBoardModel", 320, "drum", 2), ("FlapBoardModel", 325, "cells", 3), ("FlapBoardModel", 326, "worn", 4), ("FlapBoardModel", 328, "row", 5), ("FlapBoardModel", 330, "lose", 6), ("FlapBoardModel", 373, "scroll", 7), ("FlapBoardModel", 378, "home", 8), ("FlapBoardModel", 383, "wait", 9), ("FlapBoardModel", 388, "settle", 10), ("FlapBoardModel", 396, "times", 11)]
def st_len : List Nat := [5, 5, 4, 5, 4, 3, 4, 6, 4, 4, 6, 5]
def st_byt : List (List Int32) := [[98, 111, 97, 114, 100], [108, 105, 109, 105, 116], [100, 114, 117, 109], [99, 101, 108, 108, 115], [119, 111, 114, 110], [114, 111, 119], [108, 111, 115, 101], [115, 99, 114, 111, 108, 108], [104, 111, 109, 101], [119, 97, 105, 116], [115, 101, 116, 116, 108, 101], [116, 105, 109, 101, 115]]
/-- what is known of the tables, whatever the heap: classes, String constants (the i-th at q (100 + i)), links between nest mates -/
def kn (D : va_G) (q : Nat → ClassId) (U : State) : Prop := va_K D vwCl (ty_l q) U ∧ va_AO "FlapBoard$Board" U ∧ (∀ z ∈ st_l, vk_R z.1 z.2.1 z.2.2.1 (q (100 + z.2.2.2)) U) ∧ va_Nw (.methodLinkNest "FlapBoard$Tape" 103 yX6_isSign "FlapBoard") U ∧ va_Nw (.methodLinkNest "FlapBoard$Board" 174 yX6_behind "FlapBoard") U ∧ va_Nw (.methodLinkNest "FlapBoard$Board" 154 yX6_onFrom "FlapBoard") U
theorem kn_same {D : va_G} {q : Nat → ClassId} {u U : State} (hv : U.vm = u.vm) (h : kn D q u) : kn D q U := ⟨va_K.moved (by rw [hv]; exact Vm.Alike.refl _) h.1, va_AO.moved (by rw [hv]; exact Vm.Alike.refl _) h.2.1, fun z hz => vk_R.same hv (h.2.2.1 z hz), va_Nw.same rfl hv.symm h.2.2.2.1, va_Nw.same rfl hv.symm h.2.2.2.2.1, va_Nw.same rfl hv.symm h.2.2.2.2.2⟩
theorem kn_warm {D : va_G} {q : Nat → ClassId} {s U : State} (hW : s.WarmedH U.vm) (h : kn D q s) : kn D q U := ⟨va_K.moved hW.alike h.1, va_AO.moved hW.alike h.2.1, fun z hz => vk_R.warm hW (h.2.2.1 z hz), va_Nw.warmM hW h.2.2.2.1, va_Nw.warmM hW h.2.2.2.2.1, va_Nw.warmM hW h.2.2.2.2.2⟩
/-- what lies in the heap from the start on, outside of what may change: the constants' cells, two statics of the JDK -/
def sv (q : Nat → ClassId) (A : Nat → Prop) (U : State) (H : Heap) : Prop := vk_S 12 st_len st_byt (fun i => q (100 + i)) (fun i => q (200 + i)) A U H ∧ va_Z "java/lang/String" "COMPACT_STRINGS" "Z" (.int 1) A U H ∧ va_Zq "jdk/internal/util/Preconditions" "SIOOBE_FORMATTER" "Ljava/util/function/BiFunction;" A U H
theorem sv_moved {q : Nat → ClassId} {A : Nat → Prop} {u U : State} {H : Heap} (hvm : u.vm.Alike U.vm) (h : sv q A u H) : sv q A U H := ⟨vk_S.moved hvm h.1, va_Z.moved hvm h.2.1, va_Zq.moved hvm h.2.2⟩
theorem sv_kept {q : Nat → ClassId} {A : Nat → Prop} {U : State} {H H1 : Heap} (h : sv q A U H) (hq : ∀ a : Nat, a < H.size → ¬ A a → H1[a]? = H[a]?) : sv q A U H1 := ⟨h.1.kept hq, h.2.1.kept hq, h.2.2.kept hq⟩
theorem sv_narrow {q : Nat → ClassId} {A B : Nat → Prop} {U : State} {H : Heap} (h : sv q A U H) (hAB : ∀ x, B x → A x) : sv q B U H := ⟨h.1.narrow hAB, h.2.1.narrow hAB, h.2.2.narrow hAB⟩
/-- a contract's start: one that only reads, one that writes -/
def rd_P (D : va_G) (q : Nat → ClassId) (av : List Value) (ws : va_W) : Array Value → State → Prop := va_Pc av (fun U => va_P D vwCl ws U.heap ∧ kn D q U ∧ sv q (fun _ => False) U U.heap)
def mt_P (D : va_G) (q : Nat → ClassId) (av : List Value) (ws : va_W) (sz : Nat) : Array Value → State → Prop := va_Pc av (fun U => U.heap.size = sz ∧ va_P D vwCl ws U.heap ∧ kn D q U ∧ va_D (fun _ => True) ws ∧ sv q (va_A ws sz) U U.heap)
def mt_B {S : Type} (D : va_G) (ws : va_W) (sz : Nat) (w2 : S → va_W) : S → State → Prop := fun u t => va_P D vwCl (w2 u) t.heap ∧ va_D (va_A ws sz) (w2 u)
theorem rd_blind {D : va_G} {q : Nat → ClassId} {av : List Value} {ws : va_W} : FrameBlind (rd_P D q av ws) := fun a U g mk h => ⟨h.1, h.2.1, kn_same (u := U) (U := U.calling g mk a) rfl h.2.2.1, sv_moved (u := U) (U := U.calling g mk a) (Vm.Alike.refl U.vm) h.2.2.2⟩
theorem mt_blind {D : va_G} {q : Nat → ClassId} {av : List Value} {ws : va_W} {sz : Nat} : FrameBlind (mt_P D q av ws sz) := fun a U g mk h => ⟨h.1, h.2.1, h.2.2.1, kn_same (u := U) (U := U.calling g mk a) rfl h.2.2.2.1, h.2.2.2.2.1, sv_moved (u := U) (U := U.calling g mk a) (Vm.Alike.refl U.vm) h.2.2.2.2.2⟩
theorem rd_start {l : Launch} {y : MethodName} {cc : ByteArray} {maxL : Nat} {ret : Option FieldType} {rm : Room} {D : va_G} {q : Nat → ClassId} {av : List Value} {ws : va_W} {Qc : Array Value → State → Outcome → State → Prop} {free : Addr → Prop} {mc ms : Nat} (hy : plainName y.cls = true) (hav : (lg_sl av).length ≤ maxL)
    (body : ∀ (p : Program) (e : Env) (s : State) (m : MethodId) (below : List Frame) (meth : Method) (c : Code) (ls : Array Slot), p.tables.exec = Jvm.exec → c.code = cc → meth.sig.returnType = ret → c.maxLocals = maxL → s.vm.findClass y.cls = some m.cls → (∀ w ∈ w_all, w.before av.toArray s = true) → meth.locks = false → va_P D vwCl ws s.heap → kn D q s → sv q (fun _ => False) s s.heap → lv_has ls maxL (lv_args 0 av) → W p l e rm s m av.toArray below meth c s.heap [] 0 0 (MQ below Qc av.toArray s mc ms free) (F0 m 0 ls [])) : Met l y (Cond.code y cc maxL ret :: w_all) rm (rd_P D q av ws) Qc mc ms free := by
  refine Met.ofW (cc := cc) (maxL := maxL) (ret := ret) hy rfl ?_
  intro p e s m args below meth c s₁ B hml hv
  obtain ⟨rfl, hP, hK, hV⟩ := hv
  have hts := atoms_spec (ws := Cond.code y cc maxL ret :: w_all) B.pre
  rw [lg_entry_eq]
  exact body p e s m below meth c _ B.exec B.bytes B.returns hml (findClass_of_methodNamed B.named) (fun w hw => hts w (List.mem_cons_of_mem _ hw)) B.notSynchronized hP hK hV (lv_entry av hav)
theorem mt_start {l : Launch} {y : MethodName} {cc : ByteArray} {maxL : Nat} {ret : Option FieldType} {rm : Room} {D : va_G} {q : Nat → ClassId} {av : List Value} {ws : va_W} {sz : Nat} {Qc : Array Value → State → Outcome → State → Prop} {free : Addr → Prop} {mc ms : Nat} (hy : plainName y.cls = true) (hav : (lg_sl av).length ≤ maxL)
    (body : ∀ (p : Program) (e : Env) (s : State) (m : MethodId) (below : List Frame) (meth : Method) (c : Code) (ls : Array Slot), p.tables.exec = Jvm.exec → c.code = cc → meth.sig.returnType = ret → c.maxLocals = maxL → s.vm.findClass y.cls = some m.cls → (∀ w ∈ w_all, w.before av.toArray s = true) → meth.locks = false → meth.name = y.name → va_P D vwCl ws s.heap → kn D q s → va_D (va_A ws sz) ws → (∀ x : Nat, s.heap.size ≤ x → va_A ws sz x) → va_S (va_A ws sz) s.heap s.heap [] → sv q (va_A ws sz) s s.heap → lv_has ls maxL (lv_args 0 av) → W p l e rm s m av.toArray below meth c s.heap [] 0 0 (MQ below Qc av.toArray s mc ms free) (F0 m 0 ls [])) : Met l y (Cond.code y cc maxL ret :: w_all) rm (mt_P D q av ws sz) Qc mc ms free := by
  refine Met.ofW (cc := cc) (maxL := maxL) (ret := ret) hy rfl ?_
  intro p e s m args below meth c s₁ B hml hv
  obtain ⟨rfl, hsz, hP, hK, hD, hV⟩ := hv
  have hts := atoms_spec (ws := Cond.code y cc maxL ret :: w_all) B.pre
  rw [lg_entry_eq]
  exact body p e s m below meth c _ B.exec B.bytes B.returns hml (findClass_of_methodNamed B.named) (fun w hw => hts w (List.mem_cons_of_mem _ hw)) B.notSynchronized (name_of_methodNamed B.named B.method).1 hP hK hD.self (fun x h => Or.inr (hsz ▸ h)) va_S.rf hV (lv_entry av hav)
section BB
variable {p : Program} {l : Launch} {e : Env} {R : Room} {s : State} {m : MethodId} {args : Array Value} {below : List Frame} {meth : Method} {c : Code} {H : Heap} {locs : List Loc} {cells slots : Nat} {Q : State → Prop}
variable {cc : ByteArray} {pc nL : Nat} {ls : Array Slot} {rest st : List Value} {D : va_G} {q : Nat → ClassId} {ws wc : va_W} {A : Nat → Prop} {H0 : Heap}
theorem ab_i {x v : Int32} (h : x = v) (k : W p l e R s m args below meth c H locs cells slots Q (F0 m pc ls (.int v :: rest))) : W p l e R s m args below meth c H locs cells slots Q (F0 m pc ls (.int x :: rest)) := h ▸ k
theorem ab_ldcSw {own tx : String} {index q : Nat} (hx : p.tables.exec = Jvm.exec) (hb : c.code = cc) (hown : s.vm.findClass own = some m.cls) (hZ : vk_R own index tx q s) (hdg : decode cc pc = .ok (.ldc_w index, 3)) (k : W p l e R s m args below meth c H locs cells slots Q (F0 m (pc + 3) ls (.ref q :: rest))) : W p l e R s m args below meth c H locs cells slots Q (F0 m pc ls rest) := by
  intro T hT X
  obtain ⟨t, a1, b1⟩ := k T hT X
  exact ⟨t, X.ldcStringW hx hown (text := tx) (a := q) hZ.1 hZ.2 (g := F0 m pc ls rest) rfl (by rw [hb]; exact hdg) t a1, b1⟩
/-- ends -/
theorem rd_iret {post : Int32 → Prop} {v : Int32} (hx : p.tables.exec = Jvm.exec) (hb : c.code = cc) (hr : meth.sig.returnType = some .int) (hk : meth.locks = false) (hp : post v) (hdg : decode cc pc = .ok (.ireturn, 1)) : W p l e R s m args below meth c s.heap [] 0 0 (MQ below (vp_Si post) args s 0 0 (fun _ => False)) (F0 m pc ls [.int v]) := W.iret hx hb hr (fun _ ht _ => ⟨v, rfl, hp, ht⟩) (fun _ h => by cases h) hdg hk
theorem rd_zret {post : Int32 → Prop} {v : Int32} {ty : FieldType} (hx : p.tables.exec = Jvm.exec) (hb : c.code = cc) (hr : meth.sig.returnType = some ty) (hk : meth.locks = false) (hn : narrow ty (.int v) = .int v) (hp : post v) (hdg : decode cc pc = .ok (.ireturn, 1)) : W p l e R s m args below meth c s.heap [] 0 0 (MQ below (vp_Si post) args s 0 0 (fun _ => False)) (F0 m pc ls [.int v]) := W.zret hx hb hr hn (fun _ ht _ => ⟨v, rfl, hp, ht⟩) (fun _ h => by cases h) hdg hk
theorem rd_lret {post : Int64 → Prop} {v : Int64} (hx : p.tables.exec = Jvm.exec) (hb : c.code = cc) (hr : meth.sig.returnType = some .long) (hk : meth.locks = false) (hp : post v) (hdg : decode cc pc = .ok (.lreturn, 1)) : W p l e R s m args below meth c s.heap [] 0 0 (MQ below (vp_Sl post) args s 0 0 (fun _ => False)) (F0 m pc ls [.long v]) := W.lret hx hb hr (fun _ ht _ => ⟨v, rfl, hp, ht⟩) (fun _ h => by cases h) hdg hk
theorem mt_iret {S : Type} {post : Int32 → S → Prop} {w2 : S → va_W} {sz : Nat} {v : Int32} (u : S) (hx : p.tables.exec = Jvm.exec) (hb : c.code = cc) (hr : meth.sig.returnType = some .int) (hk : meth.locks = false) (hp : post v u) (hP : va_P D vwCl (w2 u) H) (hD : va_D (va_A ws sz) (w2 u)) (hS : va_S (va_A ws sz) s.heap H locs) (hdg : decode cc pc = .ok (.ireturn, 1)) : W p l e R s m args below meth c H locs cells slots (MQ below (va_Qi post (mt_B D ws sz w2) (va_A ws sz)) args s cells slots (va_A ws sz)) (F0 m pc ls [.int v]) := W.iret hx hb hr (fun _ ht _ => ⟨⟨v, u, rfl, hp, by rw [ht]; exact hP, hD⟩, hS.F ht⟩) hS.2.2 hdg hk
theorem mt_zret {S : Type} {post : Int32 → S → Prop} {w2 : S → va_W} {sz : Nat} {v : Int32} {ty : FieldType} (u : S) (hx : p.tables.exec = Jvm.exec) (hb : c.code = cc) (hr : meth.sig.returnType = some ty) (hk : meth.locks = false) (hn : narrow ty (.int v) = .int v) (hp : post v u) (hP : va_P D vwCl (w2 u) H) (hD : va_D (va_A ws sz) (w2 u)) (hS : va_S (va_A ws sz) s.heap H locs) (hdg : decode cc pc = .ok (.ireturn, 1)) : W p l e R s m args below meth c H locs cells slots (MQ below (va_Qi post (mt_B D ws sz w2) (va_A ws sz)) args s cells slots (va_A ws sz)) (F0 m pc ls [.int v]) := W.zret hx hb hr hn (fun _ ht _ => ⟨⟨v, u, rfl, hp, by rw [ht]; exact hP, hD⟩, hS.F ht⟩) hS.2.2 hdg hk
theorem mt_vret {S : Type} {post : S → Prop} {w2 : S → va_W} {sz : Nat} (u : S) (hx : p.tables.exec = Jvm.exec) (hb : c.code = cc) (hr : meth.sig.returnType = none) (hk : meth.locks = false) (hp : post u) (hP : va_P D vwCl (w2 u) H) (hD : va_D (va_A ws sz) (w2 u)) (hS : va_S (va_A ws sz) s.heap H locs) (hdg : decode cc pc = .ok (.return_, 1)) : W p l e R s m args below meth c H locs cells slots (MQ below (va_Qv post (mt_B D ws sz w2) (va_A ws sz)) args s cells slots (va_A ws sz)) (F0 m pc ls []) := W.vret hx hb hr (fun _ ht _ => ⟨⟨u, rfl, hp, by rw [ht]; exact hP, hD⟩, hS.F ht⟩) hS.2.2 hdg hk
/-- a field, by the one list of words -/
theorem fl_get {own C : String} {T : u_T} {N ci index : Nat} (hx : p.tables.exec = Jvm.exec) (hb : c.code = cc) (ht : ∀ w ∈ w_all, w.before args s = true) (hin : ∀ w ∈ u_ws C T N, w ∈ w_all) (hown : s.vm.findClass own = some m.cls) (hK : va_K D vwCl (ty_l q) s) (hP : va_P D vwCl ws H) {a : Nat} (q0 : Nat) {fs : List Value} (he : ws[q0]? = some (a, .inr (ci, fs))) (hc : vwCl[ci]? = some (C, T, N)) (k : Nat) (hk : k < N) (hl : Cond.fieldLink own index (T k).1 (T k).2.1 (T k).2.2.1 ∈ w_all) {v : Value} (hv : fs[k]? = some v) (hdg : decode cc pc = .ok (.getfield index, 3)) (kk : W p l e R s m args below meth c H locs cells slots Q (F0 m (pc + 3) ls (v :: rest))) : W p l e R s m args below meth c H locs cells slots Q (F0 m pc ls (.ref a :: rest)) :=
  va_get hx hb ht hin hown hK hP q0 he hc k hk (ht _ hl) (fun _ h => h) hv hdg kk
theorem fl_put {own C : String} {T : u_T} {N ci index : Nat} (hx : p.tables.exec = Jvm.exec) (hb : c.code = cc) (ht : ∀ w ∈ w_all, w.before args s = true) (hin : ∀ w ∈ u_ws C T N, w ∈ w_all) {ty0 : Nat → FieldType} (hty : ∀ k, k < N → parseFieldDescriptor (T k).2.2.1 = some (ty0 k)) (hnm : ∀ a, a < N → ∀ b, b < N → a ≠ b → (T a).2.1 ≠ (T b).2.1) (hown : s.vm.findClass own = some m.cls) (hK : va_K D vwCl (ty_l q) s) (hP : va_P D vwCl ws H) (hD : va_D A ws) (hS0 : va_S A H0 H locs) {a : Nat} (q0 : Nat) {fs : List Value} (he : ws[q0]? = some (a, .inr (ci, fs))) (hc : vwCl[ci]? = some (C, T, N)) (k : Nat) (hk : k < N) (hl : Cond.fieldLink own index (T k).1 (T k).2.1 (T k).2.2.1 ∈ w_all) (hfin : (T k).2.2.2 = false) {v : Value} (hn : narrow (ty0 k) v = v) (hfit : fits (ty0 k) v = true) (hlk : k < fs.length) (hdg : decode cc pc = .ok (.putfield index, 3)) {ws2 : va_W} (hw2 : ws.set q0 (a, .inr (ci, fs.set k v)) = ws2)
    (kk : ∀ (H1 : Heap) (locs1 : List Loc), va_P D vwCl ws2 H1 → va_D A ws2 → va_S A H0 H1 locs1 → W p l e R s m args below meth c H1 locs1 cells slots Q (F0 m (pc + 3) ls rest)) : W p l e R s m args below meth c H locs cells slots Q (F0 m pc ls (v :: .ref a :: rest)) := by
  subst hw2
  exact va_put hx hb ht hin ty0 hty hnm hown hK hP hD hS0 q0 he hc k hk (ht _ hl) (fun _ h => h) hfin (hty k hk) hn hfit hlk hdg kk
theorem fl_putF {own C : String} {T : u_T} {N ci index : Nat} (hx : p.tables.exec = Jvm.exec) (hb : c.code = cc) (ht : ∀ w ∈ w_all, w.before args s = true) (hin : ∀ w ∈ u_ws C T N, w ∈ w_all) {ty0 : Nat → FieldType} (hty : ∀ k, k < N → parseFieldDescriptor (T k).2.2.1 = some (ty0 k)) (hnm : ∀ a, a < N → ∀ b, b < N → a ≠ b → (T a).2.1 ≠ (T b).2.1) (hown : s.vm.findClass own = some m.cls) (hK : va_K D vwCl (ty_l q) s) (hP : va_P D vwCl ws H) (hD : va_D A ws) (hS0 : va_S A H0 H locs) {a : Nat} (q0 : Nat) {fs : List Value} (he : ws[q0]? = some (a, .inr (ci, fs))) (hc : vwCl[ci]? = some (C, T, N)) (k : Nat) (hk : k < N) (hl : Cond.fieldLink own index (T k).1 (T k).2.1 (T k).2.2.1 ∈ w_all) (hfin : (T k).2.2.2 = true) (hin2 : meth.name = "<init>") (hdecl : (T k).1 = own) {v : Value} (hn : narrow (ty0 k) v = v) (hfit : fits (ty0 k) v = true) (hlk : k < fs.length) (hdg : decode cc pc = .ok (.putfield index, 3)) {ws2 : va_W} (hw2 : ws.set q0 (a, .inr (ci, fs.set k v)) = ws2)
    (kk : ∀ (H1 : Heap) (locs1 : List Loc), va_P D vwCl ws2 H1 → va_D A ws2 → va_S A H0 H1 locs1 → W p l e R s m args below meth c H1 locs1 cells slots Q (F0 m (pc + 3) ls rest)) : W p l e R s m args below meth c H locs cells slots Q (F0 m pc ls (v :: .ref a :: rest)) := by
  subst hw2
  exact va_putF hx hb ht hin ty0 hty hnm hown hK hP hD hS0 q0 he hc k hk (ht _ hl) (fun _ h => h) hfin hin2 hdecl (hty k hk) hn hfit hlk hdg kk
/-- a call of a method that only reads, at a world of its own among ours -/
theorem rd_wV {y : MethodName} {bytes : ByteArray} {maxL n : Nat} {ret : Option FieldType} {rm : Room} {own : String} {index : Nat} {As : List Value} {b : Nat} {ci : Nat} {fs : List Value} {T : u_T} {N : Nat} {Qc : Array Value → State → Outcome → State → Prop}
    (hx : p.tables.exec = Jvm.exec) (hb : c.code = cc) (hml : c.maxLocals = nL) (hown : s.vm.findClass own = some m.cls) (ht : ∀ w ∈ w_all, w.before args s = true) (hM : Met l y (Cond.code y bytes maxL ret :: w_all) rm (rd_P D q (.ref b :: As) wc) Qc 0 0 (fun _ => False)) (wy : wd_V y bytes maxL ret n) (hl : Cond.methodLink own index y ∈ w_all) (hQ : kn D q s) (hV : sv q A s s.heap) (hS : va_S A s.heap H locs) (hP : va_P D vwCl wc H) (he : wc[0]? = some (b, .inr (ci, fs))) (hc : vwCl[ci]? = some (y.cls, T, N)) (hn : As.length = n) (hz : ls.size = nL) (hst : st = As.reverse ++ .ref b :: rest) (hW : (rest.map fun v => v.category).sum ≤ 8) (hdg : decode cc pc = .ok (.invokevirtual index, 3)) (hR : rm.frames + 1 ≤ R.frames ∧ 8 + (maxL + 11) + rm.locals ≤ R.locals ∧ rm.cells = 0 ∧ rm.slots = 0) (hcs : cells ≤ R.cells ∧ slots ≤ R.slots) :
    CallRun p l e R s m args below meth c H locs cells slots 0 0 (F0 m pc ls st) rest (Qc (Value.ref b :: As).toArray) (fun _ => False) := by
  obtain ⟨w1, w2, w3, w4, w5, w6, w7⟩ := wy
  have hG : GoodIn w_all (Cond.code y bytes maxL ret :: w_all) := w_gin (fun w h => (List.mem_cons.mp h).elim (fun e => e ▸ w4) id)
  exact W.runV ⟨hx, hb, hml, hown, ht⟩ hM ⟨callB_of n ht hG rfl hR.2.2.1 hR.2.2.2 (ht _ w3) (ht _ hl) ⟨w5, w6, w7⟩ ⟨hR.1, hR.2.1⟩, ht _ w1, ht _ w2⟩ ⟨rd_blind, va_recv hQ.1 hP hc he, fun U hU hW => ⟨rfl, by rw [hU]; exact hP, kn_warm hW hQ, by rw [hU]; exact sv_moved hW.alike (sv_narrow (sv_kept hV hS.2.1) (fun _ h => h.elim))⟩⟩ rfl hn hz hst (lv_room hW) hdg ⟨hcs.1, hcs.2⟩
theorem rd_wS {y : MethodName} {bytes : ByteArray} {maxL n : Nat} {ret : Option FieldType} {rm : Room} {own : String} {index : Nat} {As : List Value} {Qc : Array Value → State → Outcome → State → Prop}
    (hx : p.tables.exec = Jvm.exec) (hb : c.code = cc) (hml : c.maxLocals = nL) (hown : s.vm.findClass own = some m.cls) (ht : ∀ w ∈ w_all, w.before args s = true) (hM : Met l y (Cond.code y bytes maxL ret :: w_all) rm (rd_P D q As wc) Qc 0 0 (fun _ => False)) (wy : wd_S y bytes maxL ret n) (hl : Cond.methodLink own index y ∈ w_all) (hQ : kn D q s) (hV : sv q A s s.heap) (hS : va_S A s.heap H locs) (hP : va_P D vwCl wc H) (hn : As.length = n) (hz : ls.size = nL) (hst : st = As.reverse ++ rest) (hW : (rest.map fun v => v.category).sum ≤ 8) (hdg : decode cc pc = .ok (.invokestatic index, 3)) (hR : rm.frames + 1 ≤ R.frames ∧ 8 + (maxL + 11) + rm.locals ≤ R.locals ∧ rm.cells = 0 ∧ rm.slots = 0) (hcs : cells ≤ R.cells ∧ slots ≤ R.slots) :
    CallRun p l e R s m args below meth c H locs cells slots 0 0 (F0 m pc ls st) rest (Qc As.toArray) (fun _ => False) := by
  obtain ⟨w1, w3, w4, w5, w6, w7⟩ := wy
  have hG : GoodIn w_all (Cond.code y bytes maxL ret :: w_all) := w_gin (fun w h => (List.mem_cons.mp h).elim (fun e => e ▸ w4) id)
  exact W.runS ⟨hx, hb, hml, hown, ht⟩ hM ⟨callB_of n ht hG rfl hR.2.2.1 hR.2.2.2 (ht _ w3) (ht _ hl) ⟨w5, w6, w7⟩ ⟨hR.1, hR.2.1⟩, ht _ w1⟩ ⟨rd_blind, fun U hU hW => ⟨rfl, by rw [hU]; exact hP, kn_warm hW hQ, by rw [hU]; exact sv_moved hW.alike (sv_narrow (sv_kept hV hS.2.1) (fun _ h => h.elim))⟩⟩ rfl hn hz hst (lv_room hW) hdg ⟨hcs.1, hcs.2⟩
/-- a call on a String constant -/
theorem rd_wVs {i : Nat} {y : MethodName} {bytes : ByteArray} {maxL n : Nat} {ret : Option FieldType} {rm : Room} {own : String} {index : Nat} {As : List Value} {Qc : Array Value → State → Outcome → State → Prop}
    (hx : p.tables.exec = Jvm.exec) (hb : c.code = cc) (hml : c.maxLocals = nL) (hown : s.vm.findClass own = some m.cls) (ht : ∀ w ∈ w_all, w.before args s = true) (hM : Met l y (Cond.code y bytes maxL ret :: w_all) rm (rd_P D q (.ref (q (100 + i)) :: As) wc) Qc 0 0 (fun _ => False)) (wy : wd_V y bytes maxL ret n) (hl : Cond.methodLink own index y ∈ w_all) (hQ : kn D q s) (hV : sv q A s s.heap) (hS : va_S A s.heap H locs) (hP : va_P D vwCl wc H) (hi : i < 12) (hc : y.cls = "java/lang/String") (hn : As.length = n) (hz : ls.size = nL) (hst : st = As.reverse ++ .ref (q (100 + i)) :: rest) (hW : (rest.map fun v => v.category).sum ≤ 8) (hdg : decode cc pc = .ok (.invokevirtual index, 3)) (hR : rm.frames + 1 ≤ R.frames ∧ 8 + (maxL + 11) + rm.locals ≤ R.locals ∧ rm.cells = 0 ∧ rm.slots = 0) (hcs : cells ≤ R.cells ∧ slots ≤ R.slots) :
    CallRun p l e R s m args below meth c H locs cells slots 0 0 (F0 m pc ls st) rest (Qc (Value.ref (q (100 + i)) :: As).toArray) (fun _ => False) := by
  obtain ⟨w1, w2, w3, w4, w5, w6, w7⟩ := wy
  have hG : GoodIn w_all (Cond.code y bytes maxL ret :: w_all) := w_gin (fun w h => (List.mem_cons.mp h).elim (fun e => e ▸ w4) id)
  have hv := vk_recv (i := i) hV.1 hi hS
  rw [← hc] at hv
  exact W.runV ⟨hx, hb, hml, hown, ht⟩ hM ⟨callB_of n ht hG rfl hR.2.2.1 hR.2.2.2 (ht _ w3) (ht _ hl) ⟨w5, w6, w7⟩ ⟨hR.1, hR.2.1⟩, ht _ w1, ht _ w2⟩ ⟨rd_blind, hv, fun U hU hW => ⟨rfl, by rw [hU]; exact hP, kn_warm hW hQ, by rw [hU]; exact sv_moved hW.alike (sv_narrow (sv_kept hV hS.2.1) (fun _ h => h.elim))⟩⟩ rfl hn hz hst (lv_room hW) hdg ⟨hcs.1, hcs.2⟩
/-- a call of a method that writes -/
theorem mt_wV {y : MethodName} {bytes : ByteArray} {maxL n mc ms : Nat} {ret : Option FieldType} {rm : Room} {own : String} {index : Nat} {As : List Value} {b : Nat} {ci : Nat} {fs : List Value} {T : u_T} {N : Nat} {Qc : Array Value → State → Outcome → State → Prop} {free : Addr → Prop}
    (hx : p.tables.exec = Jvm.exec) (hb : c.code = cc) (hml : c.maxLocals = nL) (hown : s.vm.findClass own = some m.cls) (ht : ∀ w ∈ w_all, w.before args s = true) (hM : Met l y (Cond.code y bytes maxL ret :: w_all) rm (mt_P D q (.ref b :: As) wc H.size) Qc mc ms free) (wy : wd_V y bytes maxL ret n) (hl : Cond.methodLink own index y ∈ w_all) (hQ : kn D q s) (hV : sv q A s s.heap) (hS : va_S A s.heap H locs) (hA : ∀ x : Nat, s.heap.size ≤ x → A x) (hP : va_P D vwCl wc H) (hD : va_D A wc) (he : wc[0]? = some (b, .inr (ci, fs))) (hc : vwCl[ci]? = some (y.cls, T, N)) (hn : As.length = n) (hz : ls.size = nL) (hst : st = As.reverse ++ .ref b :: rest) (hW : (rest.map fun v => v.category).sum ≤ 8) (hdg : decode cc pc = .ok (.invokevirtual index, 3)) (hR : rm.frames + 1 ≤ R.frames ∧ 8 + (maxL + 11) + rm.locals ≤ R.locals ∧ rm.cells = mc ∧ rm.slots = ms) (hcs : cells + mc ≤ R.cells ∧ slots + ms ≤ R.slots) :
    va_Run p l e R s m args below meth c H locs cells slots mc ms (F0 m pc ls st) rest (Qc (Value.ref b :: As).toArray) free := by
  obtain ⟨w1, w2, w3, w4, w5, w6, w7⟩ := wy
  have hG : GoodIn w_all (Cond.code y bytes maxL ret :: w_all) := w_gin (fun w h => (List.mem_cons.mp h).elim (fun e => e ▸ w4) id)
  exact va_runV ⟨hx, hb, hml, hown, ht⟩ hM ⟨callB_of n ht hG rfl hR.2.2.1 hR.2.2.2 (ht _ w3) (ht _ hl) ⟨w5, w6, w7⟩ ⟨hR.1, hR.2.1⟩, ht _ w1, ht _ w2⟩ ⟨mt_blind, va_recv hQ.1 hP hc he, fun U hU hW => ⟨rfl, by rw [hU], by rw [hU]; exact hP, kn_warm hW hQ, hD.weaken (fun _ _ _ _ => trivial), by rw [hU]; exact sv_moved hW.alike (sv_narrow (sv_kept hV hS.2.1) (fun x h => h.elim (fun ⟨k, e9, hk⟩ => hD.2 k (x, e9) hk) (fun h => hA x (Nat.le_trans hS.1 h))))⟩⟩ rfl hn hz hst (lv_room hW) hdg hcs
theorem mt_wS {y : MethodName} {bytes : ByteArray} {maxL n mc ms : Nat} {ret : Option FieldType} {rm : Room} {own : String} {index : Nat} {As : List Value} {Qc : Array Value → State → Outcome → State → Prop} {free : Addr → Prop}
    (hx : p.tables.exec = Jvm.exec) (hb : c.code = cc) (hml : c.maxLocals = nL) (hown : s.vm.findClass own = some m.cls) (ht : ∀ w ∈ w_all, w.before args s = true) (hM : Met l y (Cond.code y bytes maxL ret :: w_all) rm (mt_P D q As wc H.size) Qc mc ms free) (wy : wd_S y bytes maxL ret n) (hl : Cond.methodLink own index y ∈ w_all) (hQ : kn D q s) (hV : sv q A s s.heap) (hS : va_S A s.heap H locs) (hA : ∀ x : Nat, s.heap.size ≤ x → A x) (hP : va_P D vwCl wc H) (hD : va_D A wc) (hn : As.length = n) (hz : ls.size = nL) (hst : st = As.reverse ++ rest) (hW : (rest.map fun v => v.category).sum ≤ 8) (hdg : decode cc pc = .ok (.invokestatic index, 3)) (hR : rm.frames + 1 ≤ R.frames ∧ 8 + (maxL + 11) + rm.locals ≤ R.locals ∧ rm.cells = mc ∧ rm.slots = ms) (hcs : cells + mc ≤ R.cells ∧ slots + ms ≤ R.slots) :
    va_Run p l e R s m args below meth c H locs cells slots mc ms (F0 m pc ls st) rest (Qc As.toArray) free := by
  obtain ⟨w1, w3, w4, w5, w6, w7⟩ := wy
  have hG : GoodIn w_all (Cond.code y bytes maxL ret :: w_all) := w_gin (fun w h => (List.mem_cons.mp h).elim (fun e => e ▸ w4) id)
  exact va_runS ⟨hx, hb, hml, hown, ht⟩ hM ⟨callB_of n ht hG rfl hR.2.2.1 hR.2.2.2 (ht _ w3) (ht _ hl) ⟨w5, w6, w7⟩ ⟨hR.1, hR.2.1⟩, ht _ w1⟩ ⟨mt_blind, fun U hU hW => ⟨rfl, by rw [hU], by rw [hU]; exact hP, kn_warm hW hQ, hD.weaken (fun _ _ _ _ => trivial), by rw [hU]; exact sv_moved hW.alike (sv_narrow (sv_kept hV hS.2.1) (fun x h => h.elim (fun ⟨k, e9, hk⟩ => hD.2 k (x, e9) hk) (fun h => hA x (Nat.le_trans hS.1 h))))⟩⟩ rfl hn hz hst (lv_room hW) hdg hcs
theorem mt_wI {y : MethodName} {bytes : ByteArray} {maxL n mc ms : Nat} {rm : Room} {own : String} {index : Nat} {As : List Value} {b : Nat} {Qc : Array Value → State → Outcome → State → Prop} {free : Addr → Prop}
    (hx : p.tables.exec = Jvm.exec) (hb : c.code = cc) (hml : c.maxLocals = nL) (hown : s.vm.findClass own = some m.cls) (ht : ∀ w ∈ w_all, w.before args s = true) (hM : Met l y (Cond.code y bytes maxL none :: w_all) rm (mt_P D q (.ref b :: As) wc H.size) Qc mc ms free) (wy : wd_I y bytes maxL n) (hl : Cond.methodLink own index y ∈ w_all) (hQ : kn D q s) (hV : sv q A s s.heap) (hS : va_S A s.heap H locs) (hA : ∀ x : Nat, s.heap.size ≤ x → A x) (hP : va_P D vwCl wc H) (hD : va_D A wc) (hn : As.length = n) (hz : ls.size = nL) (hst : st = As.reverse ++ .ref b :: rest) (hW : (rest.map fun v => v.category).sum ≤ 8) (hdg : decode cc pc = .ok (.invokespecial index, 3)) (hR : rm.frames + 1 ≤ R.frames ∧ 8 + (maxL + 11) + rm.locals ≤ R.locals ∧ rm.cells = mc ∧ rm.slots = ms) (hcs : cells + mc ≤ R.cells ∧ slots + ms ≤ R.slots) :
    va_Run p l e R s m args below meth c H locs cells slots mc ms (F0 m pc ls st) rest (Qc (Value.ref b :: As).toArray) free := by
  obtain ⟨w1, w3, w4, w4b, w5, w6, w7⟩ := wy
  have hG : GoodIn w_all (Cond.code y bytes maxL none :: w_all) := w_gin (fun w h => (List.mem_cons.mp h).elim (fun e => e ▸ w4) id)
  exact va_runI ⟨hx, hb, hml, hown, ht⟩ hM ⟨callB_of n ht hG rfl hR.2.2.1 hR.2.2.2 (ht _ w3) (ht _ hl) ⟨w5, w6, w7⟩ ⟨hR.1, hR.2.1⟩, w4b, ht _ w1⟩ ⟨mt_blind, fun U hU hW => ⟨rfl, by rw [hU], by rw [hU]; exact hP, kn_warm hW hQ, hD.weaken (fun _ _ _ _ => trivial), by rw [hU]; exact sv_moved hW.alike (sv_narrow (sv_kept hV hS.2.1) (fun x h => h.elim (fun ⟨k, e9, hk⟩ => hD.2 k (x, e9) hk) (fun h => hA x (Nat.le_trans hS.1 h))))⟩⟩ rfl hn hz hst (lv_room hW) hdg hcs
/-- behind such a call: the rest of our world beside what the method left -/
theorem mt_goi {S : Type} {post : Int32 → S → Prop} {w2 : S → va_W} {wr : va_W} {mc ms : Nat} {av : Array Value} (hr : va_Run p l e R s m args below meth c H locs cells slots mc ms (F0 m pc ls st) rest (va_Qi post (mt_B D wc H.size w2) (va_A wc H.size) av) (va_A wc H.size)) (hP : va_P D vwCl ws H) (hD : va_D A ws) (hS : va_S A H0 H locs) (hA : ∀ x : Nat, H0.size ≤ x → A x) (isC isR : List Nat) (hC : isC.map (fun i => ws[i]?) = wc.map some) (hR : isR.map (fun i => ws[i]?) = wr.map some) (hn : va_nd isR = true) (hdis : ∀ i ∈ isR, i ∉ isC)
    (kk : ∀ (r : Int32) (u : S) (H1 : Heap) (locs1 : List Loc), post r u → va_P D vwCl (wr ++ w2 u) H1 → va_D A (wr ++ w2 u) → va_S A H0 H1 locs1 → W p l e R s m args below meth c H1 locs1 (cells + mc) (slots + ms) Q (F0 m (pc + 3) ls (.int r :: rest))) : W p l e R s m args below meth c H locs cells slots Q (F0 m pc ls st) := by
  have hF := va_free (wc := wc) hD hS hA isC hC
  refine va_calli hr hS (fun x _ h => hF x h) hF (fun r u t H1 locs1 ht hvm hw hB hz1 hk1 hS1 => ?_)
  obtain ⟨hP1, hD1⟩ := hB
  rw [ht] at hP1
  obtain ⟨hP2, hD2⟩ := va_join hP hD isC isR hC hR hn hdis hk1 hF hP1 hD1
  exact kk r u H1 locs1 hw hP2 hD2 hS1
theorem mt_gov {S : Type} {post : S → Prop} {w2 : S → va_W} {wr : va_W} {mc ms : Nat} {av : Array Value} (hr : va_Run p l e R s m args below meth c H locs cells slots mc ms (F0 m pc ls st) rest (va_Qv post (mt_B D wc H.size w2) (va_A wc H.size) av) (va_A wc H.size)) (hP : va_P D vwCl ws H) (hD : va_D A ws) (hS : va_S A H0 H locs) (hA : ∀ x : Nat, H0.size ≤ x → A x) (isC isR : List Nat) (hC : isC.map (fun i => ws[i]?) = wc.map some) (hR : isR.map (fun i => ws[i]?) = wr.map some) (hn : va_nd isR = true) (hdis : ∀ i ∈ isR, i ∉ isC)
    (kk : ∀ (u : S) (H1 : Heap) (locs1 : List Loc), post u → va_P D vwCl (wr ++ w2 u) H1 → va_D A (wr ++ w2 u) → va_S A H0 H1 locs1 → W p l e R s m args below meth c H1 locs1 (cells + mc) (slots + ms) Q (F0 m (pc + 3) ls rest)) : W p l e R s m args below meth c H locs cells slots Q (F0 m pc ls st) := by
  have hF := va_free (wc := wc) hD hS hA isC hC
  refine va_callv hr hS (fun x _ h => hF x h) hF (fun u t H1 locs1 ht hvm hw hB hz1 hk1 hS1 => ?_)
  obtain ⟨hP1, hD1⟩ := hB
  rw [ht] at hP1
  obtain ⟨hP2, hD2⟩ := va_join hP hD isC isR hC hR hn hdis hk1 hF hP1 hD1
  exact kk u H1 locs1 hw hP2 hD2 hS1
/-- new rows of whole numbers: their class is the known one -/
theorem nw_i {n : Int32} {N : Nat} (hx : p.tables.exec = Jvm.exec) (hb : c.code = cc) (ht : ∀ w ∈ w_all, w.before args s = true) (hw : Cond.arrayClass .int ∈ w_all) (hK : va_K D vwCl (ty_l q) s) (hP : va_P D vwCl ws H) (hD : va_D A ws) (hS : va_S A H0 H locs) (hA : ∀ x, H0.size ≤ x → A x) (hn : ¬ n < 0) (hN : n.toNatClampNeg = N) (hbytes : N * componentBytes .int ≤ 536870912) (hcs : cells + 1 ≤ R.cells ∧ slots + N ≤ R.slots) (hdg : decode cc pc = .ok (.newarray .int, 2))
    (kk : ∀ (a : Nat) (H1 : Heap), va_P D vwCl (ws ++ [(a, .inl (q 0, N, .inl (fun _ => 0)))]) H1 → va_D A (ws ++ [(a, .inl (q 0, N, .inl (fun _ => 0)))]) → va_S A H0 H1 locs → W p l e R s m args below meth c H1 locs (cells + 1) (slots + N) Q (F0 m (pc + 2) ls (.ref a :: rest))) : W p l e R s m args below meth c H locs cells slots Q (F0 m pc ls (.int n :: rest)) := by
  refine va_newa (atype := .int) (ty := .int) (a0 := (N, .inl (fun _ => 0))) hx hb (ht _ hw) rfl hK hP hD hS hA (fun _ => rfl) hn hN hbytes hcs.1 hcs.2 hdg (fun a cA H1 hK1 hP1 hD1 hS1 => ?_)
  have h1 : s.vm.findClass ("[" ++ FieldType.int.toString) = some cA := (hK1.2 5 (cA, .int) rfl).2
  have h2 : s.vm.findClass ("[" ++ FieldType.int.toString) = some (q 0) := (hK.2 0 (q 0, .int) rfl).2
  have h3 : cA = q 0 := Option.some.inj (h1.symm.trans h2)
  subst h3
  exact kk a H1 hP1 hD1 hS1
theorem nw_l {n : Int32} {N : Nat} (hx : p.tables.exec = Jvm.exec) (hb : c.code = cc) (ht : ∀ w ∈ w_all, w.before args s = true) (hw : Cond.arrayClass .long ∈ w_all) (hK : va_K D vwCl (ty_l q) s) (hP : va_P D vwCl ws H) (hD : va_D A ws) (hS : va_S A H0 H locs) (hA : ∀ x, H0.size ≤ x → A x) (hn : ¬ n < 0) (hN : n.toNatClampNeg = N) (hbytes : N * componentBytes .long ≤ 536870912) (hcs : cells + 1 ≤ R.cells ∧ slots + N ≤ R.slots) (hdg : decode cc pc = .ok (.newarray .long, 2))
    (kk : ∀ (a : Nat) (H1 : Heap), va_P D vwCl (ws ++ [(a, .inl (q 1, N, .inr (.inl (fun _ => 0))))]) H1 → va_D A (ws ++ [(a, .inl (q 1, N, .inr (.inl (fun _ => 0))))]) → va_S A H0 H1 locs → W p l e R s m args below meth c H1 locs (cells + 1) (slots + N) Q (F0 m (pc + 2) ls (.ref a :: rest))) : W p l e R s m args below meth c H locs cells slots Q (F0 m pc ls (.int n :: rest)) := by
  refine va_newa (atype := .long) (ty := .long) (a0 := (N, .inr (.inl (fun _ => 0)))) hx hb (ht _ hw) rfl hK hP hD hS hA (fun _ => rfl) hn hN hbytes hcs.1 hcs.2 hdg (fun a cA H1 hK1 hP1 hD1 hS1 => ?_)
  have h1 : s.vm.findClass ("[" ++ FieldType.long.toString) = some cA := (hK1.2 5 (cA, .long) rfl).2
  have h2 : s.vm.findClass ("[" ++ FieldType.long.toString) = some (q 1) := (hK.2 1 (q 1, .long) rfl).2
  have h3 : cA = q 1 := Option.some.inj (h1.symm.trans h2)
  subst h3
  exact kk a H1 hP1 hD1 hS1
theorem nw_b {n : Int32} {N : Nat} (hx : p.tables.exec = Jvm.exec) (hb : c.code = cc) (ht : ∀ w ∈ w_all, w.before args s = true) (hw : Cond.arrayClass .byte ∈ w_all) (hK : va_K D vwCl (ty_l q) s) (hP : va_P D vwCl ws H) (hD : va_D A ws) (hS : va_S A H0 H locs) (hA : ∀ x, H0.size ≤ x → A x) (hn : ¬ n < 0) (hN : n.toNatClampNeg = N) (hbytes : N * componentBytes .byte ≤ 536870912) (hcs : cells + 1 ≤ R.cells ∧ slots + N ≤ R.slots) (hdg : decode cc pc = .ok (.newarray .byte, 2))
    (kk : ∀ (a : Nat) (H1 : Heap), va_P D vwCl (ws ++ [(a, .inl (q 2, N, .inl (fun _ => 0)))]) H1 → va_D A (ws ++ [(a, .inl (q 2, N, .inl (fun _ => 0)))]) → va_S A H0 H1 locs → W p l e R s m args below meth c H1 locs (cells + 1) (slots + N) Q (F0 m (pc + 2) ls (.ref a :: rest))) : W p l e R s m args below meth c H locs cells slots Q (F0 m pc ls (.int n :: rest)) := by
  refine va_newa (atype := .byte) (ty := .byte) (a0 := (N, .inl (fun _ => 0))) hx hb (ht _ hw) rfl hK hP hD hS hA (fun _ => rfl) hn hN hbytes hcs.1 hcs.2 hdg (fun a cA H1 hK1 hP1 hD1 hS1 => ?_)
  have h1 : s.vm.findClass ("[" ++ FieldType.byte.toString) = some cA := (hK1.2 5 (cA, .byte) rfl).2
  have h2 : s.vm.findClass ("[" ++ FieldType.byte.toString) = some (q 2) := (hK.2 2 (q 2, .byte) rfl).2
  have h3 : cA = q 2 := Option.some.inj (h1.symm.trans h2)
  subst h3
  exact kk a H1 hP1 hD1 hS1
theorem nw_z {n : Int32} {N : Nat} (hx : p.tables.exec = Jvm.exec) (hb : c.code = cc) (ht : ∀ w ∈ w_all, w.before args s = true) (hw : Cond.arrayClass .boolean ∈ w_all) (hK : va_K D vwCl (ty_l q) s) (hP : va_P D vwCl ws H) (hD : va_D A ws) (hS : va_S A H0 H locs) (hA : ∀ x, H0.size ≤ x → A x) (hn : ¬ n < 0) (hN : n.toNatClampNeg = N) (hbytes : N * componentBytes .boolean ≤ 536870912) (hcs : cells + 1 ≤ R.cells ∧ slots + N ≤ R.slots) (hdg : decode cc pc = .ok (.newarray .boolean, 2))
    (kk : ∀ (a : Nat) (H1 : Heap), va_P D vwCl (ws ++ [(a, .inl (q 3, N, .inl (fun _ => 0)))]) H1 → va_D A (ws ++ [(a, .inl (q 3, N, .inl (fun _ => 0)))]) → va_S A H0 H1 locs → W p l e R s m args below meth c H1 locs (cells + 1) (slots + N) Q (F0 m (pc + 2) ls (.ref a :: rest))) : W p l e R s m args below meth c H locs cells slots Q (F0 m pc ls (.int n :: rest)) := by
  refine va_newa (atype := .boolean) (ty := .boolean) (a0 := (N, .inl (fun _ => 0))) hx hb (ht _ hw) rfl hK hP hD hS hA (fun _ => rfl) hn hN hbytes hcs.1 hcs.2 hdg (fun a cA H1 hK1 hP1 hD1 hS1 => ?_)
  have h1 : s.vm.findClass ("[" ++ FieldType.boolean.toString) = some cA := (hK1.2 5 (cA, .boolean) rfl).2
  have h2 : s.vm.findClass ("[" ++ FieldType.boolean.toString) = some (q 3) := (hK.2 3 (q 3, .boolean) rfl).2
  have h3 : cA = q 3 := Option.some.inj (h1.symm.trans h2)
  subst h3
  exact kk a H1 hP1 hD1 hS1
theorem ab_null (k : W p l e R s m args below meth c H locs cells slots Q (F0 m pc ls (.null :: rest))) : W p l e R s m args below meth c H locs cells slots Q (F0 m pc ls (va_rf none :: rest)) := k
theorem mt_lret {S : Type} {post : Int64 → S → Prop} {w2 : S → va_W} {sz : Nat} {v : Int64} (u : S) (hx : p.tables.exec = Jvm.exec) (hb : c.code = cc) (hr : meth.sig.returnType = some .long) (hk : meth.locks = false) (hp : post v u) (hP : va_P D vwCl (w2 u) H) (hD : va_D (va_A ws sz) (w2 u)) (hS : va_S (va_A ws sz) s.heap H locs) (hdg : decode cc pc = .ok (.lreturn, 1)) : W p l e R s m args below meth c H locs cells slots (MQ below (va_Ql post (mt_B D ws sz w2) (va_A ws sz)) args s cells slots (va_A ws sz)) (F0 m pc ls [.long v]) := W.lret hx hb hr (fun _ ht _ => ⟨⟨v, u, rfl, hp, by rw [ht]; exact hP, hD⟩, hS.F ht⟩) hS.2.2 hdg hk
end BB
theorem in_X0 : ∀ w ∈ u_ws RX0 TX0 18, w ∈ w_all := by decide +kernel
theorem in_X2 : ∀ w ∈ u_ws RX2 TX2 12, w ∈ w_all := by decide +kernel
theorem in_X3 : ∀ w ∈ u_ws RX3 TX3 3, w ∈ w_all := by decide +kernel
theorem in_X4 : ∀ w ∈ u_ws RX4 TX4 10, w ∈ w_all := by decide +kernel
theorem in_X5 : ∀ w ∈ u_ws RX5 TX5 7, w ∈ w_all := by decide +kernel
theorem in_X6 : ∀ w ∈ u_ws RX6 TX6 7, w ∈ w_all := by decide +kernel
theorem in_X7 : ∀ w ∈ u_ws RX7 TX7 23, w ∈ w_all := by decide +kernel
theorem nf_X0 : ∀ j, j < 18 → defaultValue (tyX0 j) = vp_V [.int 0, .int 0, .int 0, .int 0, .int 0, .int 0, .null, .null, .null, .null, .null, .null, .null, .null, .null, .null, .null, .null] j := by
  intro j hj
  rcases (show j = 0 ∨ j = 1 ∨ j = 2 ∨ j = 3 ∨ j = 4 ∨ j = 5 ∨ j = 6 ∨ j = 7 ∨ j = 8 ∨ j = 9 ∨ j = 10 ∨ j = 11 ∨ j = 12 ∨ j = 13 ∨ j = 14 ∨ j = 15 ∨ j = 16 ∨ j = 17 by omega) with rfl | rfl | rfl | rfl | rfl | rfl | rfl | rfl | rfl | rfl | rfl | rfl | rfl | rfl | rfl | rfl | rfl | rfl <;> rfl
theorem nf_X2 : ∀ j, j < 12 → defaultValue (tyX2 j) = vp_V [.null, .null, .null, .int 0, .int 0, .int 0, .int 0, .int 0, .int 0, .int 0, .int 0, .int 0] j := by
  intro j hj
  rcases (show j = 0 ∨ j = 1 ∨ j = 2 ∨ j = 3 ∨ j = 4 ∨ j = 5 ∨ j = 6 ∨ j = 7 ∨ j = 8 ∨ j = 9 ∨ j = 10 ∨ j = 11 by omega) with rfl | rfl | rfl | rfl | rfl | rfl | rfl | rfl | rfl | rfl | rfl | rfl <;> rfl
theorem nf_X3 : ∀ j, j < 3 → defaultValue (tyX3 j) = vp_V [.null, .int 0, .int 0] j := by
  intro j hj
  rcases (show j = 0 ∨ j = 1 ∨ j = 2 by omega) with rfl | rfl | rfl <;> rfl
theorem nf_X4 : ∀ j, j < 10 → defaultValue (tyX4 j) = vp_V [.null, .null, .null, .null, .null, .null, .null, .int 0, .int 0, .int 0] j := by
  intro j hj
  rcases (show j = 0 ∨ j = 1 ∨ j = 2 ∨ j = 3 ∨ j = 4 ∨ j = 5 ∨ j = 6 ∨ j = 7 ∨ j = 8 ∨ j = 9 by omega) with rfl | rfl | rfl | rfl | rfl | rfl | rfl | rfl | rfl | rfl <;> rfl
theorem nf_X5 : ∀ j, j < 7 → defaultValue (tyX5 j) = vp_V [.null, .int 0, .int 0, .int 0, .int 0, .int 0, .int 0] j := by
  intro j hj
  rcases (show j = 0 ∨ j = 1 ∨ j = 2 ∨ j = 3 ∨ j = 4 ∨ j = 5 ∨ j = 6 by omega) with rfl | rfl | rfl | rfl | rfl | rfl | rfl <;> rfl
theorem nf_X6 : ∀ j, j < 7 → defaultValue (tyX6 j) = vp_V [.null, .null, .null, .null, .null, .null, .null] j := by
  intro j hj
  rcases (show j = 0 ∨ j = 1 ∨ j = 2 ∨ j = 3 ∨ j = 4 ∨ j = 5 ∨ j = 6 by omega) with rfl | rfl | rfl | rfl | rfl | rfl | rfl <;> rfl
theorem nf_X7 : ∀ j, j < 23 → defaultValue (tyX7 j) = vp_V [.null, .null, .int 0, .null, .null, .null, .long 0, .int 0, .int 0, .null, .int 0, .int 0, .null, .int 0, .int 0, .int 0, .int 0, .int 0, .int 0, .int 0, .int 0, .int 0, .int 0] j := by
  intro j hj
  rcases (show j = 0 ∨ j = 1 ∨ j = 2 ∨ j = 3 ∨ j = 4 ∨ j = 5 ∨ j = 6 ∨ j = 7 ∨ j = 8 ∨ j = 9 ∨ j = 10 ∨ j = 11 ∨ j = 12 ∨ j = 13 ∨ j = 14 ∨ j = 15 ∨ j = 16 ∨ j = 17 ∨ j = 18 ∨ j = 19 ∨ j = 20 ∨ j = 21 ∨ j = 22 by omega) with rfl | rfl | rfl | rfl | rfl | rfl | rfl | rfl | rfl | rfl | rfl | rfl | rfl | rfl | rfl | rfl | rfl | rfl | rfl | rfl | rfl | rfl | rfl <;> rfl
theorem in_c {i : Int32} {n : Nat} (h : decide (¬ (i < 0 ∨ n ≤ i.toNatClampNeg)) = true) : vp_in i n := show ¬ (i < 0 ∨ n ≤ i.toNatClampNeg) from of_decide_eq_true h
theorem nI_inc (i : Nat) : nI i + Int32.ofInt 1 = nI (i + 1) := (nI_succ i).symm
section BQ
variable {p : Program} {l : Launch} {e : Env} {R : Room} {s : State} {m : MethodId} {args : Array Value} {below : List Frame} {meth : Method} {c : Code} {H : Heap} {locs : List Loc} {cells slots : Nat} {Q : State → Prop}
variable {cc : ByteArray} {pc : Nat} {ls : Array Slot} {rest : List Value} {D : va_G} {q : Nat → ClassId} {ws : va_W} {A : Nat → Prop} {H0 : Heap}
theorem nw_q {n : Int32} {N : Nat} {own : String} {index : Nat} (hx : p.tables.exec = Jvm.exec) (hb : c.code = cc) (hown : s.vm.findClass own = some m.cls) (hcl : (Cond.classLink own index "FlapBoard$Board").before args s = true) (hQ : kn D q s) (hP : va_P D vwCl ws H) (hD : va_D A ws) (hS : va_S A H0 H locs) (hA : ∀ x, H0.size ≤ x → A x) (hn : ¬ n < 0) (hN : n.toNatClampNeg = N) (hbytes : N * 4 ≤ 536870912) (hcs : cells + 1 ≤ R.cells ∧ slots + N ≤ R.slots) (hdg : decode cc pc = .ok (.anewarray index, 3))
    (kk : ∀ (a : Nat) (H1 : Heap), va_P D vwCl (ws ++ [(a, .inl (q 4, N, .inr (.inr (.inr (.inr (fun _ => none))))))]) H1 → va_D A (ws ++ [(a, .inl (q 4, N, .inr (.inr (.inr (.inr (fun _ => none))))))]) → va_S A H0 H1 locs → W p l e R s m args below meth c H1 locs (cells + 1) (slots + N) Q (F0 m (pc + 3) ls (.ref a :: rest))) : W p l e R s m args below meth c H locs cells slots Q (F0 m pc ls (.int n :: rest)) := by
  refine va_newq hx hb hown hcl hQ.2.1 hQ.1 hP hD hS hA hn hN hbytes hcs.1 hcs.2 hdg (fun a cA H1 hK1 hP1 hD1 hS1 => ?_)
  obtain ⟨_, _, _, _, _, h1⟩ := (hK1.2 5 (cA, .object "FlapBoard$Board") rfl).2
  obtain ⟨_, _, _, _, _, h2⟩ := (hQ.1.2 4 (q 4, .object "FlapBoard$Board") rfl).2
  have h3 : cA = q 4 := Option.some.inj (h1.symm.trans h2)
  subst h3
  exact kk a H1 hP1 hD1 hS1
end BQ
theorem nI_plus (a b : Nat) : nI a + nI b = nI (a + b) := by
  show Int32.ofNat a + Int32.ofNat b = Int32.ofNat (a + b)
  simp
section B2
variable {p : Program} {l : Launch} {e : Env} {R : Room} {s : State} {m : MethodId} {args : Array Value} {below : List Frame} {meth : Method} {c : Code} {H : Heap} {locs : List Loc} {cells slots : Nat} {Q : State → Prop}
variable {cc : ByteArray} {pc nL : Nat} {ls : Array Slot} {rest st : List Value} {D : va_G} {q : Nat → ClassId} {ws wc : va_W} {A : Nat → Prop} {H0 : Heap}
theorem rd_vret2 {post : Prop} (hx : p.tables.exec = Jvm.exec) (hb : c.code = cc) (hr : meth.sig.returnType = none) (hk : meth.locks = false) (hp : post) (hdg : decode cc pc = .ok (.return_, 1)) : W p l e R s m args below meth c s.heap [] 0 0 (MQ below (va_Sv (fun _ => post)) args s 0 0 (fun _ => False)) (F0 m pc ls []) := W.vret hx hb hr (fun _ ht _ => ⟨rfl, hp, ht⟩) (fun _ h => by cases h) hdg hk
theorem rd_wSN {y : MethodName} {bytes : ByteArray} {maxL n : Nat} {ret : Option FieldType} {rm : Room} {own host : String} {index : Nat} {As : List Value} {Qc : Array Value → State → Outcome → State → Prop}
    (hx : p.tables.exec = Jvm.exec) (hb : c.code = cc) (hml : c.maxLocals = nL) (hown : s.vm.findClass own = some m.cls) (ht : ∀ w ∈ w_all, w.before args s = true) (hM : Met l y (Cond.code y bytes maxL ret :: w_all) rm (rd_P D q As wc) Qc 0 0 (fun _ => False)) (wy : wd_S y bytes maxL ret n) (hl : va_Nw (.methodLinkNest own index y host) s) (hQ : kn D q s) (hV : sv q A s s.heap) (hS : va_S A s.heap H locs) (hP : va_P D vwCl wc H) (hn : As.length = n) (hz : ls.size = nL) (hst : st = As.reverse ++ rest) (hW : (rest.map fun v => v.category).sum ≤ 8) (hdg : decode cc pc = .ok (.invokestatic index, 3)) (hR : rm.frames + 1 ≤ R.frames ∧ 8 + (maxL + 11) + rm.locals ≤ R.locals ∧ rm.cells = 0 ∧ rm.slots = 0) (hcs : cells ≤ R.cells ∧ slots ≤ R.slots) :
    CallRun p l e R s m args below meth c H locs cells slots 0 0 (F0 m pc ls st) rest (Qc As.toArray) (fun _ => False) := by
  obtain ⟨w1, w3, w4, w5, w6, w7⟩ := wy
  have hG : GoodIn w_all (Cond.code y bytes maxL ret :: w_all) := w_gin (fun w h => (List.mem_cons.mp h).elim (fun e => e ▸ w4) id)
  have hr := va_runSN (l := l) (R := R) (p := p) (e := e) (below := below) (meth := meth) (locs := locs) (cells := cells) (slots := slots) (g := F0 m pc ls st) (rest := rest) (H := H) ⟨hx, hb, hml, hown, ht⟩ hM ⟨va_cnB n ht hG rfl hR.2.2.1 hR.2.2.2 hl (ht _ w3) ⟨w5, w6, w7⟩ ⟨hR.1, hR.2.1⟩, ht _ w1, trivial⟩ ⟨rd_blind, fun U hU hW => ⟨rfl, by rw [hU]; exact hP, kn_warm hW hQ, by rw [hU]; exact sv_moved hW.alike (sv_narrow (sv_kept hV hS.2.1) (fun _ h => h.elim))⟩⟩ rfl hn hz hst (lv_room hW) hdg ⟨hcs.1, hcs.2⟩
  intro T hT X
  obtain ⟨v, st0, t, T', L, h0, X', hL, e1, e2, hq, hs⟩ := hr T hT X
  exact ⟨v, st0, t, T', L, h0, X', hL, e1, hq, hs⟩
end B2
def is_aload_n (x : Except DecodeError (Instr × Nat)) (k0 : Fin 4) (n : Nat) : Bool := match x with | .ok (.aload_n j0, m) => Nat.beq m n && Nat.beq j0.val k0.val | _ => false
theorem ok_aload_n {x : Except DecodeError (Instr × Nat)} {k0 : Fin 4} {n : Nat} (h : is_aload_n x k0 n = true) : x = .ok (.aload_n k0, n) := by
  unfold is_aload_n at h
  split at h
  · have h0 := (Bool.and_eq_true_iff.mp h).2; replace h := (Bool.and_eq_true_iff.mp h).1; have e := Nat.eq_of_beq_eq_true h; have e0 := Fin.eq_of_val_eq (Nat.eq_of_beq_eq_true h0); rw [e, e0]
  · exact absurd h (by decide)
def is_iload_n (x : Except DecodeError (Instr × Nat)) (k0 : Fin 4) (n : Nat) : Bool := match x with | .ok (.iload_n j0, m) => Nat.beq m n && Nat.beq j0.val k0.val | _ => false
theorem ok_iload_n {x : Except DecodeError (Instr × Nat)} {k0 : Fin 4} {n : Nat} (h : is_iload_n x k0 n = true) : x = .ok (.iload_n k0, n) := by
  unfold is_iload_n at h
  split at h
  · have h0 := (Bool.and_eq_true_iff.mp h).2; replace h := (Bool.and_eq_true_iff.mp h).1; have e := Nat.eq_of_beq_eq_true h; have e0 := Fin.eq_of_val_eq (Nat.eq_of_beq_eq_true h0); rw [e, e0]
  · exact absurd h (by decide)
def is_iconst (x : Except DecodeError (Instr × Nat)) (k0 : Int) (n : Nat) : Bool := match x with | .ok (.iconst j0, m) => Nat.beq m n && decide (j0 = k0) | _ => false
theorem ok_iconst {x : Except DecodeError (Instr × Nat)} {k0 : Int} {n : Nat} (h : is_iconst x k0 n = true) : x = .ok (.iconst k0, n) := by
  unfold is_iconst at h
  split at h
  · have h0 := (Bool.and_eq_true_iff.mp h).2; replace h := (Bool.and_eq_true_iff.mp h).1; have e := Nat.eq_of_beq_eq_true h; have e0 := of_decide_eq_true h0; rw [e, e0]
  · exact absurd h (by decide)
def is_getfield (x : Except DecodeError (Instr × Nat)) (k0 : Nat) (n : Nat) : Bool := match x with | .ok (.getfield j0, m) => Nat.beq m n && Nat.beq j0 k0 | _ => false
theorem ok_getfield {x : Except DecodeError (Instr × Nat)} {k0 : Nat} {n : Nat} (h : is_getfield x k0 n = true) : x = .ok (.getfield k0, n) := by
  unfold is_getfield at h
  split at h
  · have h0 := (Bool.and_eq_true_iff.mp h).2; replace h := (Bool.and_eq_true_iff.mp h).1; have e := Nat.eq_of_beq_eq_true h; have e0 := Nat.eq_of_beq_eq_true h0; rw [e, e0]
  · exact absurd h (by decide)
def is_invokevirtual (x : Except DecodeError (Instr × Nat)) (k0 : Nat) (n : Nat) : Bool := match x with | .ok (.invokevirtual j0, m) => Nat.beq m n && Nat.beq j0 k0 | _ => false
theorem ok_invokevirtual {x : Except DecodeError (Instr × Nat)} {k0 : Nat} {n : Nat} (h : is_invokevirtual x k0 n = true) : x = .ok (.invokevirtual k0, n) := by
  unfold is_invokevirtual at h
  split at h
  · have h0 := (Bool.and_eq_true_iff.mp h).2; replace h := (Bool.and_eq_true_iff.mp h).1; have e := Nat.eq_of_beq_eq_true h; have e0 := Nat.eq_of_beq_eq_true h0; rw [e, e0]
  · exact absurd h (by decide)
def is_ireturn (x : Except DecodeError (Instr × Nat)) (n : Nat) : Bool := match x with | .ok (.ireturn, m) => Nat.beq m n | _ => false
theorem ok_ireturn {x : Except DecodeError (Instr × Nat)} {n : Nat} (h : is_ireturn x  n = true) : x = .ok (.ireturn, n) := by
  unfold is_ireturn at h
  split at h
  · have e := Nat.eq_of_beq_eq_true h; rw [e]
  · exact absurd h (by decide)
def is_iload (x : Except DecodeError (Instr × Nat)) (k0 : Nat) (n : Nat) : Bool := match x with | .ok (.iload j0, m) => Nat.beq m n && Nat.beq j0 k0 | _ => false
theorem ok_iload {x : Except DecodeError (Instr × Nat)} {k0 : Nat} {n : Nat} (h : is_iload x k0 n = true) : x = .ok (.iload k0, n) := by
  unfold is_iload at h
  split at h
  · have h0 := (Bool.and_eq_true_iff.mp h).2; replace h := (Bool.and_eq_true_iff.mp h).1; have e := Nat.eq_of_beq_eq_true h; have e0 := Nat.eq_of_beq_eq_true h0; rw [e, e0]
  · exact absurd h (by decide)
def is_ifCond (x : Except DecodeError (Instr × Nat)) (k0 : Jvm.ClassFile.Cond) (k1 : Int) (n : Nat) : Bool := match x with | .ok (.ifCond j0 j1, m) => Nat.beq m n && decide (j0 = k0) && decide (j1 = k1) | _ => false
theorem ok_ifCond {x : Except DecodeError (Instr × Nat)} {k0 : Jvm.ClassFile.Cond} {k1 : Int} {n : Nat} (h : is_ifCond x k0 k1 n = true) : x = .ok (.ifCond k0 k1, n) := by
  unfold is_ifCond at h
  split at h
  · have h1 := (Bool.and_eq_true_iff.mp h).2; replace h := (Bool.and_eq_true_iff.mp h).1; have h0 := (Bool.and_eq_true_iff.mp h).2; replace h := (Bool.and_eq_true_iff.mp h).1; have e := Nat.eq_of_beq_eq_true h; have e0 := of_decide_eq_true h0; have e1 := of_decide_eq_true h1; rw [e, e0, e1]
  · exact absurd h (by decide)
def is_if_icmp (x : Except DecodeError (Instr × Nat)) (k0 : Jvm.ClassFile.Cond) (k1 : Int) (n : Nat) : Bool := match x with | .ok (.if_icmp j0 j1, m) => Nat.beq m n && decide (j0 = k0) && decide (j1 = k1) | _ => false
theorem ok_if_icmp {x : Except DecodeError (Instr × Nat)} {k0 : Jvm.ClassFile.Cond} {k1 : Int} {n : Nat} (h : is_if_icmp x k0 k1 n = true) : x = .ok (.if_icmp k0 k1, n) := by
  unfold is_if_icmp at h
  split at h
  · have h1 := (Bool.and_eq_true_iff.mp h).2; replace h := (Bool.and_eq_true_iff.mp h).1; have h0 := (Bool.and_eq_true_iff.mp h).2; replace h := (Bool.and_eq_true_iff.mp h).1; have e := Nat.eq_of_beq_eq_true h; have e0 := of_decide_eq_true h0; have e1 := of_decide_eq_true h1; rw [e, e0, e1]
  · exact absurd h (by decide)
def is_goto (x : Except DecodeError (Instr × Nat)) (k0 : Int) (n : Nat) : Bool := match x with | .ok (.goto j0, m) => Nat.beq m n && decide (j0 = k0) | _ => false
theorem ok_goto {x : Except DecodeError (Instr × Nat)} {k0 : Int} {n : Nat} (h : is_goto x k0 n = true) : x = .ok (.goto k0, n) := by
  unfold is_goto at h
  split at h
  · have h0 := (Bool.and_eq_true_iff.mp h).2; replace h := (Bool.and_eq_true_iff.mp h).1; have e := Nat.eq_of_beq_eq_true h; have e0 := of_decide_eq_true h0; rw [e, e0]
  · exact absurd h (by decide)
def is_iadd (x : Except DecodeError (Instr × Nat)) (n : Nat) : Bool := match x with | .ok (.iadd, m) => Nat.beq m n | _ => false
theorem ok_iadd {x : Except DecodeError (Instr × Nat)} {n : Nat} (h : is_iadd x  n = true) : x = .ok (.iadd, n) := by
  unfold is_iadd at h
  split at h
  · have e := Nat.eq_of_beq_eq_true h; rw [e]
  · exact absurd h (by decide)
def is_istore_n (x : Except DecodeError (Instr × Nat)) (k0 : Fin 4) (n : Nat) : Bool := match x with | .ok (.istore_n j0, m) => Nat.beq m n && Nat.beq j0.val k0.val | _ => false
theorem ok_istore_n {x : Except DecodeError (Instr × Nat)} {k0 : Fin 4} {n : Nat} (h : is_istore_n x k0 n = true) : x = .ok (.istore_n k0, n) := by
  unfold is_istore_n at h
  split at h
  · have h0 := (Bool.and_eq_true_iff.mp h).2; replace h := (Bool.and_eq_true_iff.mp h).1; have e := Nat.eq_of_beq_eq_true h; have e0 := Fin.eq_of_val_eq (Nat.eq_of_beq_eq_true h0); rw [e, e0]
  · exact absurd h (by decide)
def is_iaload (x : Except DecodeError (Instr × Nat)) (n : Nat) : Bool := match x with | .ok (.iaload, m) => Nat.beq m n | _ => false
theorem ok_iaload {x : Except DecodeError (Instr × Nat)} {n : Nat} (h : is_iaload x  n = true) : x = .ok (.iaload, n) := by
  unfold is_iaload at h
  split at h
  · have e := Nat.eq_of_beq_eq_true h; rw [e]
  · exact absurd h (by decide)
def is_istore (x : Except DecodeError (Instr × Nat)) (k0 : Nat) (n : Nat) : Bool := match x with | .ok (.istore j0, m) => Nat.beq m n && Nat.beq j0 k0 | _ => false
theorem ok_istore {x : Except DecodeError (Instr × Nat)} {k0 : Nat} {n : Nat} (h : is_istore x k0 n = true) : x = .ok (.istore k0, n) := by
  unfold is_istore at h
  split at h
  · have h0 := (Bool.and_eq_true_iff.mp h).2; replace h := (Bool.and_eq_true_iff.mp h).1; have e := Nat.eq_of_beq_eq_true h; have e0 := Nat.eq_of_beq_eq_true h0; rw [e, e0]
  · exact absurd h (by decide)
def is_bipush (x : Except DecodeError (Instr × Nat)) (k0 : Int) (n : Nat) : Bool := match x with | .ok (.bipush j0, m) => Nat.beq m n && decide (j0 = k0) | _ => false
theorem ok_bipush {x : Except DecodeError (Instr × Nat)} {k0 : Int} {n : Nat} (h : is_bipush x k0 n = true) : x = .ok (.bipush k0, n) := by
  unfold is_bipush at h
  split at h
  · have h0 := (Bool.and_eq_true_iff.mp h).2; replace h := (Bool.and_eq_true_iff.mp h).1; have e := Nat.eq_of_beq_eq_true h; have e0 := of_decide_eq_true h0; rw [e, e0]
  · exact absurd h (by decide)
def is_putfield (x : Except DecodeError (Instr × Nat)) (k0 : Nat) (n : Nat) : Bool := match x with | .ok (.putfield j0, m) => Nat.beq m n && Nat.beq j0 k0 | _ => false
theorem ok_putfield {x : Except DecodeError (Instr × Nat)} {k0 : Nat} {n : Nat} (h : is_putfield x k0 n = true) : x = .ok (.putfield k0, n) := by
  unfold is_putfield at h
  split at h
  · have h0 := (Bool.and_eq_true_iff.mp h).2; replace h := (Bool.and_eq_true_iff.mp h).1; have e := Nat.eq_of_beq_eq_true h; have e0 := Nat.eq_of_beq_eq_true h0; rw [e, e0]
  · exact absurd h (by decide)
def is_iinc (x : Except DecodeError (Instr × Nat)) (k0 : Nat) (k1 : Int) (n : Nat) : Bool := match x with | .ok (.iinc j0 j1, m) => Nat.beq m n && Nat.beq j0 k0 && decide (j1 = k1) | _ => false
theorem ok_iinc {x : Except DecodeError (Instr × Nat)} {k0 : Nat} {k1 : Int} {n : Nat} (h : is_iinc x k0 k1 n = true) : x = .ok (.iinc k0 k1, n) := by
  unfold is_iinc at h
  split at h
  · have h1 := (Bool.and_eq_true_iff.mp h).2; replace h := (Bool.and_eq_true_iff.mp h).1; have h0 := (Bool.and_eq_true_iff.mp h).2; replace h := (Bool.and_eq_true_iff.mp h).1; have e := Nat.eq_of_beq_eq_true h; have e0 := Nat.eq_of_beq_eq_true h0; have e1 := of_decide_eq_true h1; rw [e, e0, e1]
  · exact absurd h (by decide)
def is_invokestatic (x : Except DecodeError (Instr × Nat)) (k0 : Nat) (n : Nat) : Bool := match x with | .ok (.invokestatic j0, m) => Nat.beq m n && Nat.beq j0 k0 | _ => false
theorem ok_invokestatic {x : Except DecodeError (Instr × Nat)} {k0 : Nat} {n : Nat} (h : is_invokestatic x k0 n = true) : x = .ok (.invokestatic k0, n) := by
  unfold is_invokestatic at h
  split at h
  · have h0 := (Bool.and_eq_true_iff.mp h).2; replace h := (Bool.and_eq_true_iff.mp h).1; have e := Nat.eq_of_beq_eq_true h; have e0 := Nat.eq_of_beq_eq_true h0; rw [e, e0]
  · exact absurd h (by decide)
def is_pop (x : Except DecodeError (Instr × Nat)) (n : Nat) : Bool := match x with | .ok (.pop, m) => Nat.beq m n | _ => false
theorem ok_pop {x : Except DecodeError (Instr × Nat)} {n : Nat} (h : is_pop x  n = true) : x = .ok (.pop, n) := by
  unfold is_pop at h
  split at h
  · have e := Nat.eq_of_beq_eq_true h; rw [e]
  · exact absurd h (by decide)
def is_i2l (x : Except DecodeError (Instr × Nat)) (n : Nat) : Bool := match x with | .ok (.i2l, m) => Nat.beq m n | _ => false
theorem ok_i2l {x : Except DecodeError (Instr × Nat)} {n : Nat} (h : is_i2l x  n = true) : x = .ok (.i2l, n) := by
  unfold is_i2l at h
  split at h
  · have e := Nat.eq_of_beq_eq_true h; rw [e]
  · exact absurd h (by decide)
def is_isub (x : Except DecodeError (Instr × Nat)) (n : Nat) : Bool := match x with | .ok (.isub, m) => Nat.beq m n | _ => false
theorem ok_isub {x : Except DecodeError (Instr × Nat)} {n : Nat} (h : is_isub x  n = true) : x = .ok (.isub, n) := by
  unfold is_isub at h
  split at h
  · have e := Nat.eq_of_beq_eq_true h; rw [e]
  · exact absurd h (by decide)
def is_lconst (x : Except DecodeError (Instr × Nat)) (k0 : Fin 2) (n : Nat) : Bool := match x with | .ok (.lconst j0, m) => Nat.beq m n && Nat.beq j0.val k0.val | _ => false
theorem ok_lconst {x : Except DecodeError (Instr × Nat)} {k0 : Fin 2} {n : Nat} (h : is_lconst x k0 n = true) : x = .ok (.lconst k0, n) := by
  unfold is_lconst at h
  split at h
  · have h0 := (Bool.and_eq_true_iff.mp h).2; replace h := (Bool.and_eq_true_iff.mp h).1; have e := Nat.eq_of_beq_eq_true h; have e0 := Fin.eq_of_val_eq (Nat.eq_of_beq_eq_true h0); rw [e, e0]
  · exact absurd h (by decide)
def is_return_ (x : Except DecodeError (Instr × Nat)) (n : Nat) : Bool := match x with | .ok (.return_, m) => Nat.beq m n | _ => false
theorem ok_return_ {x : Except DecodeError (Instr × Nat)} {n : Nat} (h : is_return_ x  n = true) : x = .ok (.return_, n) := by
  unfold is_return_ at h
  split at h
  · have e := Nat.eq_of_beq_eq_true h; rw [e]
  · exact absurd h (by decide)
def is_dup (x : Except DecodeError (Instr × Nat)) (n : Nat) : Bool := match x with | .ok (.dup, m) => Nat.beq m n | _ => false
theorem ok_dup {x : Except DecodeError (Instr × Nat)} {n : Nat} (h : is_dup x  n = true) : x = .ok (.dup, n) := by
  unfold is_dup at h
  split at h
  · have e := Nat.eq_of_beq_eq_true h; rw [e]
  · exact absurd h (by decide)
def is_imul (x : Except DecodeError (Instr × Nat)) (n : Nat) : Bool := match x with | .ok (.imul, m) => Nat.beq m n | _ => false
theorem ok_imul {x : Except DecodeError (Instr × Nat)} {n : Nat} (h : is_imul x  n = true) : x = .ok (.imul, n) := by
  unfold is_imul at h
  split at h
  · have e := Nat.eq_of_beq_eq_true h; rw [e]
  · exact absurd h (by decide)
def is_sipush (x : Except DecodeError (Instr × Nat)) (k0 : Int) (n : Nat) : Bool := match x with | .ok (.sipush j0, m) => Nat.beq m n && decide (j0 = k0) | _ => false
theorem ok_sipush {x : Except DecodeError (Instr × Nat)} {k0 : Int} {n : Nat} (h : is_sipush x k0 n = true) : x = .ok (.sipush k0, n) := by
  unfold is_sipush at h
  split at h
  · have h0 := (Bool.and_eq_true_iff.mp h).2; replace h := (Bool.and_eq_true_iff.mp h).1; have e := Nat.eq_of_beq_eq_true h; have e0 := of_decide_eq_true h0; rw [e, e0]
  · exact absurd h (by decide)
def is_laload (x : Except DecodeError (Instr × Nat)) (n : Nat) : Bool := match x with | .ok (.laload, m) => Nat.beq m n | _ => false
theorem ok_laload {x : Except DecodeError (Instr × Nat)} {n : Nat} (h : is_laload x  n = true) : x = .ok (.laload, n) := by
  unfold is_laload at h
  split at h
  · have e := Nat.eq_of_beq_eq_true h; rw [e]
  · exact absurd h (by decide)
def is_iastore (x : Except DecodeError (Instr × Nat)) (n : Nat) : Bool := match x with | .ok (.iastore, m) => Nat.beq m n | _ => false
theorem ok_iastore {x : Except DecodeError (Instr × Nat)} {n : Nat} (h : is_iastore x  n = true) : x = .ok (.iastore, n) := by
  unfold is_iastore at h
  split at h
  · have e := Nat.eq_of_beq_eq_true h; rw [e]
  · exact absurd h (by decide)
def is_ldc2_w (x : Except DecodeError (Instr × Nat)) (k0 : Nat) (n : Nat) : Bool := match x with | .ok (.ldc2_w j0, m) => Nat.beq m n && Nat.beq j0 k0 | _ => false
theorem ok_ldc2_w {x : Except DecodeError (Instr × Nat)} {k0 : Nat} {n : Nat} (h : is_ldc2_w x k0 n = true) : x = .ok (.ldc2_w k0, n) := by
  unfold is_ldc2_w at h
  split at h
  · have h0 := (Bool.and_eq_true_iff.mp h).2; replace h := (Bool.and_eq_true_iff.mp h).1; have e := Nat.eq_of_beq_eq_true h; have e0 := Nat.eq_of_beq_eq_true h0; rw [e, e0]
  · exact absurd h (by decide)
def is_lload_n (x : Except DecodeError (Instr × Nat)) (k0 : Fin 4) (n : Nat) : Bool := match x with | .ok (.lload_n j0, m) => Nat.beq m n && Nat.beq j0.val k0.val | _ => false
theorem ok_lload_n {x : Except DecodeError (Instr × Nat)} {k0 : Fin 4} {n : Nat} (h : is_lload_n x k0 n = true) : x = .ok (.lload_n k0, n) := by
  unfold is_lload_n at h
  split at h
  · have h0 := (Bool.and_eq_true_iff.mp h).2; replace h := (Bool.and_eq_true_iff.mp h).1; have e := Nat.eq_of_beq_eq_true h; have e0 := Fin.eq_of_val_eq (Nat.eq_of_beq_eq_true h0); rw [e, e0]
  · exact absurd h (by decide)
def is_lastore (x : Except DecodeError (Instr × Nat)) (n : Nat) : Bool := match x with | .ok (.lastore, m) => Nat.beq m n | _ => false
theorem ok_lastore {x : Except DecodeError (Instr × Nat)} {n : Nat} (h : is_lastore x  n = true) : x = .ok (.lastore, n) := by
  unfold is_lastore at h
  split at h
  · have e := Nat.eq_of_beq_eq_true h; rw [e]
  · exact absurd h (by decide)
def is_lstore_n (x : Except DecodeError (Instr × Nat)) (k0 : Fin 4) (n : Nat) : Bool := match x with | .ok (.lstore_n j0, m) => Nat.beq m n && Nat.beq j0.val k0.val | _ => false
theorem ok_lstore_n {x : Except DecodeError (Instr × Nat)} {k0 : Fin 4} {n : Nat} (h : is_lstore_n x k0 n = true) : x = .ok (.lstore_n k0, n) := by
  unfold is_lstore_n at h
  split at h
  · have h0 := (Bool.and_eq_true_iff.mp h).2; replace h := (Bool.and_eq_true_iff.mp h).1; have e := Nat.eq_of_beq_eq_true h; have e0 := Fin.eq_of_val_eq (Nat.eq_of_beq_eq_true h0); rw [e, e0]
  · exact absurd h (by decide)
def is_ladd (x : Except DecodeError (Instr × Nat)) (n : Nat) : Bool := match x with | .ok (.ladd, m) => Nat.beq m n | _ => false
theorem ok_ladd {x : Except DecodeError (Instr × Nat)} {n : Nat} (h : is_ladd x  n = true) : x = .ok (.ladd, n) := by
  unfold is_ladd at h
  split at h
  · have e := Nat.eq_of_beq_eq_true h; rw [e]
  · exact absurd h (by decide)
def is_ldc_w (x : Except DecodeError (Instr × Nat)) (k0 : Nat) (n : Nat) : Bool := match x with | .ok (.ldc_w j0, m) => Nat.beq m n && Nat.beq j0 k0 | _ => false
theorem ok_ldc_w {x : Except DecodeError (Instr × Nat)} {k0 : Nat} {n : Nat} (h : is_ldc_w x k0 n = true) : x = .ok (.ldc_w k0, n) := by
  unfold is_ldc_w at h
  split at h
  · have h0 := (Bool.and_eq_true_iff.mp h).2; replace h := (Bool.and_eq_true_iff.mp h).1; have e := Nat.eq_of_beq_eq_true h; have e0 := Nat.eq_of_beq_eq_true h0; rw [e, e0]
  · exact absurd h (by decide)
def is_invokespecial (x : Except DecodeError (Instr × Nat)) (k0 : Nat) (n : Nat) : Bool := match x with | .ok (.invokespecial j0, m) => Nat.beq m n && Nat.beq j0 k0 | _ => false
theorem ok_invokespecial {x : Except DecodeError (Instr × Nat)} {k0 : Nat} {n : Nat} (h : is_invokespecial x k0 n = true) : x = .ok (.invokespecial k0, n) := by
  unfold is_invokespecial at h
  split at h
  · have h0 := (Bool.and_eq_true_iff.mp h).2; replace h := (Bool.and_eq_true_iff.mp h).1; have e := Nat.eq_of_beq_eq_true h; have e0 := Nat.eq_of_beq_eq_true h0; rw [e, e0]
  · exact absurd h (by decide)
def is_l2i (x : Except DecodeError (Instr × Nat)) (n : Nat) : Bool := match x with | .ok (.l2i, m) => Nat.beq m n | _ => false
theorem ok_l2i {x : Except DecodeError (Instr × Nat)} {n : Nat} (h : is_l2i x  n = true) : x = .ok (.l2i, n) := by
  unfold is_l2i at h
  split at h
  · have e := Nat.eq_of_beq_eq_true h; rw [e]
  · exact absurd h (by decide)
def is_ldc (x : Except DecodeError (Instr × Nat)) (k0 : Nat) (n : Nat) : Bool := match x with | .ok (.ldc j0, m) => Nat.beq m n && Nat.beq j0 k0 | _ => false
theorem ok_ldc {x : Except DecodeError (Instr × Nat)} {k0 : Nat} {n : Nat} (h : is_ldc x k0 n = true) : x = .ok (.ldc k0, n) := by
  unfold is_ldc at h
  split at h
  · have h0 := (Bool.and_eq_true_iff.mp h).2; replace h := (Bool.and_eq_true_iff.mp h).1; have e := Nat.eq_of_beq_eq_true h; have e0 := Nat.eq_of_beq_eq_true h0; rw [e, e0]
  · exact absurd h (by decide)
def is_dup2 (x : Except DecodeError (Instr × Nat)) (n : Nat) : Bool := match x with | .ok (.dup2, m) => Nat.beq m n | _ => false
theorem ok_dup2 {x : Except DecodeError (Instr × Nat)} {n : Nat} (h : is_dup2 x  n = true) : x = .ok (.dup2, n) := by
  unfold is_dup2 at h
  split at h
  · have e := Nat.eq_of_beq_eq_true h; rw [e]
  · exact absurd h (by decide)
def is_lreturn (x : Except DecodeError (Instr × Nat)) (n : Nat) : Bool := match x with | .ok (.lreturn, m) => Nat.beq m n | _ => false
theorem ok_lreturn {x : Except DecodeError (Instr × Nat)} {n : Nat} (h : is_lreturn x  n = true) : x = .ok (.lreturn, n) := by
  unfold is_lreturn at h
  split at h
  · have e := Nat.eq_of_beq_eq_true h; rw [e]
  · exact absurd h (by decide)

theorem mw_0 : Cond.selects RX5 yX5_wordRead yX5_wordRead ∈ w_all := w_in 0 (by decide +kernel) (by decide +kernel)
theorem mw_1 : Cond.selects RX5 yX5_isRead yX5_isRead ∈ w_all := w_in 1 (by decide +kernel) (by decide +kernel)
theorem mw_2 : Cond.selects RX0 yX0_flapFor yX0_flapFor ∈ w_all := w_in 2 (by decide +kernel) (by decide +kernel)
theorem mw_3 : Cond.selects RX0 yX0_entryStart yX0_entryStart ∈ w_all := w_in 3 (by decide +kernel) (by decide +kernel)
theorem mw_4 : Cond.selects RX6 yX6_whyNotRow yX6_whyNotRow ∈ w_all := w_in 4 (by decide +kernel) (by decide +kernel)
theorem mw_5 : Cond.selects RX6 yX6_isRowText yX6_isRowText ∈ w_all := w_in 5 (by decide +kernel) (by decide +kernel)
theorem mw_6 : Cond.selects RX0 yX0_wantFlap yX0_wantFlap ∈ w_all := w_in 6 (by decide +kernel) (by decide +kernel)
theorem mw_7 : Cond.selects RX2 yX2_startCounting yX2_startCounting ∈ w_all := w_in 7 (by decide +kernel) (by decide +kernel)
theorem mw_8 : Cond.selects RX2 yX2_sortByLeft yX2_sortByLeft ∈ w_all := w_in 8 (by decide +kernel) (by decide +kernel)
theorem mw_9 : Cond.selects RX2 yX2_countTick yX2_countTick ∈ w_all := w_in 9 (by decide +kernel) (by decide +kernel)
theorem mw_10 : Cond.selects RX6 yX6_whyNotProgram yX6_whyNotProgram ∈ w_all := w_in 10 (by decide +kernel) (by decide +kernel)
theorem mw_11 : Cond.selects RX4 yX4_readStep yX4_readStep ∈ w_all := w_in 11 (by decide +kernel) (by decide +kernel)
theorem mw_12 : Cond.selects RX4 yX4_openTimes yX4_openTimes ∈ w_all := w_in 12 (by decide +kernel) (by decide +kernel)
theorem mw_13 : Cond.selects RX4 yX4_addStep yX4_addStep ∈ w_all := w_in 13 (by decide +kernel) (by decide +kernel)
theorem mw_14 : Cond.selects RX4 yX4_goesOn yX4_goesOn ∈ w_all := w_in 14 (by decide +kernel) (by decide +kernel)
theorem mw_15 : Cond.selects RX4 yX4_closeTimes yX4_closeTimes ∈ w_all := w_in 15 (by decide +kernel) (by decide +kernel)
theorem mw_17 : Cond.selects RX6 yX6_doStep yX6_doStep ∈ w_all := w_in 17 (by decide +kernel) (by decide +kernel)
theorem mw_18 : Cond.selects RX6 yX6_isSuch yX6_isSuch ∈ w_all := w_in 18 (by decide +kernel) (by decide +kernel)
theorem mw_19 : Cond.selects RX6 yX6_leastTicks yX6_leastTicks ∈ w_all := w_in 19 (by decide +kernel) (by decide +kernel)
theorem mw_20 : Cond.selects RX6 yX6_tryToSettle yX6_tryToSettle ∈ w_all := w_in 20 (by decide +kernel) (by decide +kernel)
theorem mw_21 : Cond.selects RX0 yX0_entryAt yX0_entryAt ∈ w_all := w_in 21 (by decide +kernel) (by decide +kernel)
theorem mw_23 : Cond.selects RX7 yX7_isRow yX7_isRow ∈ w_all := w_in 23 (by decide +kernel) (by decide +kernel)
theorem mw_24 : Cond.selects RX7 yX7_rows yX7_rows ∈ w_all := w_in 24 (by decide +kernel) (by decide +kernel)
theorem mw_25 : Cond.selects RX7 yX7_isRowText yX7_isRowText ∈ w_all := w_in 25 (by decide +kernel) (by decide +kernel)
theorem mw_26 : Cond.selects RX7 yX7_wide yX7_wide ∈ w_all := w_in 26 (by decide +kernel) (by decide +kernel)
theorem mw_27 : Cond.selects RX7 yX7_areSigns yX7_areSigns ∈ w_all := w_in 27 (by decide +kernel) (by decide +kernel)
theorem mw_28 : Cond.selects RX7 yX7_keepsAct yX7_keepsAct ∈ w_all := w_in 28 (by decide +kernel) (by decide +kernel)
theorem mw_29 : Cond.selects RX7 yX7_wantsSigns yX7_wantsSigns ∈ w_all := w_in 29 (by decide +kernel) (by decide +kernel)
theorem mw_30 : Cond.selects RX7 yX7_flapFor yX7_flapFor ∈ w_all := w_in 30 (by decide +kernel) (by decide +kernel)
theorem mw_31 : Cond.selects RX7 yX7_flaps yX7_flaps ∈ w_all := w_in 31 (by decide +kernel) (by decide +kernel)
theorem mw_32 : Cond.selects RX7 yX7_of yX7_of ∈ w_all := w_in 32 (by decide +kernel) (by decide +kernel)
theorem mw_33 : Cond.selects RX7 yX7_flapsOf yX7_flapsOf ∈ w_all := w_in 33 (by decide +kernel) (by decide +kernel)
theorem mw_34 : Cond.selects RX7 yX7_signOf yX7_signOf ∈ w_all := w_in 34 (by decide +kernel) (by decide +kernel)
theorem mw_35 : Cond.selects RX7 yX7_wornOf yX7_wornOf ∈ w_all := w_in 35 (by decide +kernel) (by decide +kernel)
theorem mw_36 : Cond.selects RX7 yX7_wantsFlap yX7_wantsFlap ∈ w_all := w_in 36 (by decide +kernel) (by decide +kernel)
theorem mw_37 : Cond.selects RX7 yX7_sets yX7_sets ∈ w_all := w_in 37 (by decide +kernel) (by decide +kernel)
theorem mw_38 : Cond.selects RX7 yX7_isBoard yX7_isBoard ∈ w_all := w_in 38 (by decide +kernel) (by decide +kernel)
theorem mw_39 : Cond.selects RX7 yX7_drums yX7_drums ∈ w_all := w_in 39 (by decide +kernel) (by decide +kernel)
theorem mw_40 : Cond.selects RX7 yX7_scrolls yX7_scrolls ∈ w_all := w_in 40 (by decide +kernel) (by decide +kernel)
theorem mw_41 : Cond.selects RX7 yX7_cells yX7_cells ∈ w_all := w_in 41 (by decide +kernel) (by decide +kernel)
theorem mw_42 : Cond.selects RX7 yX7_ticks yX7_ticks ∈ w_all := w_in 42 (by decide +kernel) (by decide +kernel)
theorem mw_43 : Cond.selects RX7 yX7_findsTurning yX7_findsTurning ∈ w_all := w_in 43 (by decide +kernel) (by decide +kernel)
theorem mw_44 : Cond.selects RX7 yX7_leftOf yX7_leftOf ∈ w_all := w_in 44 (by decide +kernel) (by decide +kernel)
theorem mw_45 : Cond.selects RX7 yX7_current yX7_current ∈ w_all := w_in 45 (by decide +kernel) (by decide +kernel)
theorem mw_46 : Cond.selects RX7 yX7_currentOf yX7_currentOf ∈ w_all := w_in 46 (by decide +kernel) (by decide +kernel)
theorem mw_47 : Cond.selects RX7 yX7_steps yX7_steps ∈ w_all := w_in 47 (by decide +kernel) (by decide +kernel)
theorem mw_48 : Cond.selects RX7 yX7_settles yX7_settles ∈ w_all := w_in 48 (by decide +kernel) (by decide +kernel)
theorem mw_49 : Cond.selects RX7 yX7_isCell yX7_isCell ∈ w_all := w_in 49 (by decide +kernel) (by decide +kernel)
theorem mw_50 : Cond.selects RX7 yX7_isFlap yX7_isFlap ∈ w_all := w_in 50 (by decide +kernel) (by decide +kernel)
theorem mw_51 : Cond.selects RX7 yX7_wears yX7_wears ∈ w_all := w_in 51 (by decide +kernel) (by decide +kernel)
theorem mw_52 : Cond.selects RX7 yX7_isDrum yX7_isDrum ∈ w_all := w_in 52 (by decide +kernel) (by decide +kernel)
theorem mw_53 : Cond.selects RX7 yX7_cellsWith yX7_cellsWith ∈ w_all := w_in 53 (by decide +kernel) (by decide +kernel)
theorem mw_54 : Cond.selects RX7 yX7_signsOf yX7_signsOf ∈ w_all := w_in 54 (by decide +kernel) (by decide +kernel)
theorem mw_55 : Cond.selects RX7 yX7_manyWith yX7_manyWith ∈ w_all := w_in 55 (by decide +kernel) (by decide +kernel)
theorem mw_56 : Cond.selects RX7 yX7_signAt yX7_signAt ∈ w_all := w_in 56 (by decide +kernel) (by decide +kernel)
theorem mw_57 : Cond.selects RX7 yX7_isSuch yX7_isSuch ∈ w_all := w_in 57 (by decide +kernel) (by decide +kernel)
theorem mw_58 : Cond.selects RX7 yX7_isOther yX7_isOther ∈ w_all := w_in 58 (by decide +kernel) (by decide +kernel)
theorem mw_59 : Cond.selects RX7 yX7_putsAside yX7_putsAside ∈ w_all := w_in 59 (by decide +kernel) (by decide +kernel)
theorem mw_60 : Cond.selects RX7 yX7_others yX7_others ∈ w_all := w_in 60 (by decide +kernel) (by decide +kernel)
theorem mw_61 : Cond.selects RX7 yX7_takesBack yX7_takesBack ∈ w_all := w_in 61 (by decide +kernel) (by decide +kernel)
theorem mw_62 : Cond.selects RX7 yX7_asks yX7_asks ∈ w_all := w_in 62 (by decide +kernel) (by decide +kernel)
theorem mw_63 : Cond.selects RX7 yX7_endOf yX7_endOf ∈ w_all := w_in 63 (by decide +kernel) (by decide +kernel)
theorem mw_64 : Cond.selects RX7 yX7_journey yX7_journey ∈ w_all := w_in 64 (by decide +kernel) (by decide +kernel)
theorem mw_65 : Cond.selects RX7 yX7_logged yX7_logged ∈ w_all := w_in 65 (by decide +kernel) (by decide +kernel)
theorem mw_66 : Cond.selects RX7 yX7_entries yX7_entries ∈ w_all := w_in 66 (by decide +kernel) (by decide +kernel)
theorem mw_67 : Cond.selects RX7 yX7_hasElsewhere yX7_hasElsewhere ∈ w_all := w_in 67 (by decide +kernel) (by decide +kernel)
theorem mw_68 : Cond.selects RX7 yX7_lays yX7_lays ∈ w_all := w_in 68 (by decide +kernel) (by decide +kernel)
theorem mw_69 : Cond.selects RX7 yX7_readsBoard yX7_readsBoard ∈ w_all := w_in 69 (by decide +kernel) (by decide +kernel)
theorem mw_70 : Cond.selects RX7 yX7_mustWord yX7_mustWord ∈ w_all := w_in 70 (by decide +kernel) (by decide +kernel)
theorem mw_71 : Cond.selects RX7 yX7_takesWord yX7_takesWord ∈ w_all := w_in 71 (by decide +kernel) (by decide +kernel)
theorem mw_72 : Cond.selects RX7 yX7_isWord yX7_isWord ∈ w_all := w_in 72 (by decide +kernel) (by decide +kernel)
theorem mw_73 : Cond.selects RX7 yX7_nextByte yX7_nextByte ∈ w_all := w_in 73 (by decide +kernel) (by decide +kernel)
theorem mw_74 : Cond.selects RX7 yX7_byteAt yX7_byteAt ∈ w_all := w_in 74 (by decide +kernel) (by decide +kernel)
theorem mw_75 : Cond.selects RX7 yX7_fails yX7_fails ∈ w_all := w_in 75 (by decide +kernel) (by decide +kernel)
theorem mw_76 : Cond.selects RX7 yX7_readsNumber yX7_readsNumber ∈ w_all := w_in 76 (by decide +kernel) (by decide +kernel)
theorem mw_77 : Cond.selects RX7 yX7_readsPart yX7_readsPart ∈ w_all := w_in 77 (by decide +kernel) (by decide +kernel)
theorem mw_78 : Cond.selects RX7 yX7_readsDrum yX7_readsDrum ∈ w_all := w_in 78 (by decide +kernel) (by decide +kernel)
theorem mw_79 : Cond.selects RX7 yX7_readsQuoted yX7_readsQuoted ∈ w_all := w_in 79 (by decide +kernel) (by decide +kernel)
theorem mw_80 : Cond.selects RX7 yX7_mustByte yX7_mustByte ∈ w_all := w_in 80 (by decide +kernel) (by decide +kernel)
theorem mw_81 : Cond.selects RX7 yX7_takesByte yX7_takesByte ∈ w_all := w_in 81 (by decide +kernel) (by decide +kernel)
theorem mw_82 : Cond.selects RX7 yX7_readsCells yX7_readsCells ∈ w_all := w_in 82 (by decide +kernel) (by decide +kernel)
theorem mw_83 : Cond.selects RX7 yX7_readsWorn yX7_readsWorn ∈ w_all := w_in 83 (by decide +kernel) (by decide +kernel)
theorem mw_84 : Cond.selects RX7 yX7_readsRow yX7_readsRow ∈ w_all := w_in 84 (by decide +kernel) (by decide +kernel)
theorem mw_85 : Cond.selects RX7 yX7_readsLose yX7_readsLose ∈ w_all := w_in 85 (by decide +kernel) (by decide +kernel)
theorem mw_86 : Cond.selects RX7 yX7_goesProgram yX7_goesProgram ∈ w_all := w_in 86 (by decide +kernel) (by decide +kernel)
theorem mw_87 : Cond.selects RX7 yX7_goesAll yX7_goesAll ∈ w_all := w_in 87 (by decide +kernel) (by decide +kernel)
theorem mw_88 : Cond.selects RX7 yX7_goesOne yX7_goesOne ∈ w_all := w_in 88 (by decide +kernel) (by decide +kernel)
theorem mw_89 : Cond.selects RX7 yX7_goesRow yX7_goesRow ∈ w_all := w_in 89 (by decide +kernel) (by decide +kernel)
theorem mw_90 : Cond.selects RX7 yX7_isDone yX7_isDone ∈ w_all := w_in 90 (by decide +kernel) (by decide +kernel)
theorem mw_91 : Cond.selects RX7 yX7_goesScroll yX7_goesScroll ∈ w_all := w_in 91 (by decide +kernel) (by decide +kernel)
theorem mw_92 : Cond.selects RX7 yX7_goesHome yX7_goesHome ∈ w_all := w_in 92 (by decide +kernel) (by decide +kernel)
theorem mw_93 : Cond.selects RX7 yX7_goesWait yX7_goesWait ∈ w_all := w_in 93 (by decide +kernel) (by decide +kernel)
theorem mw_94 : Cond.selects RX7 yX7_goesSettle yX7_goesSettle ∈ w_all := w_in 94 (by decide +kernel) (by decide +kernel)
theorem mw_95 : Cond.selects RX7 yX7_goesLose yX7_goesLose ∈ w_all := w_in 95 (by decide +kernel) (by decide +kernel)
theorem mw_96 : Cond.selects RX7 yX7_goesTimes yX7_goesTimes ∈ w_all := w_in 96 (by decide +kernel) (by decide +kernel)
theorem mw_98 : Cond.initialized RX6 ∈ w_all := w_inT w_s1 1 rfl rfl
theorem mw_99 : Cond.initialized RX5 ∈ w_all := w_inT w_s1 2 rfl rfl
theorem mw_100 : Cond.initialized RX0 ∈ w_all := w_inT w_s1 3 rfl rfl
theorem mw_101 : Cond.initialized RX2 ∈ w_all := w_inT w_s1 4 rfl rfl
theorem mw_102 : Cond.initialized RX4 ∈ w_all := w_inT w_s1 5 rfl rfl
theorem mw_104 : Cond.initialized RX7 ∈ w_all := w_inT w_s1 7 rfl rfl
theorem mw_105 : Cond.initialized RX1 ∈ w_all := w_inT w_s1 8 rfl rfl
theorem mw_106 : Cond.initialized RJ0 ∈ w_all := w_inT w_s1 9 rfl rfl
theorem mw_107 : Cond.initialized RJ1 ∈ w_all := w_inT w_s1 10 rfl rfl
theorem mw_108 : Cond.initialized RJ3 ∈ w_all := w_inT w_s1 11 rfl rfl
theorem mw_110 : Cond.initialized RJ9 ∈ w_all := w_inT w_s1 13 rfl rfl
theorem mw_111 : Cond.initialized RJ10 ∈ w_all := w_inT w_s1 14 rfl rfl
theorem mw_112 : Cond.initialized RJ7 ∈ w_all := w_inT w_s1 15 rfl rfl
theorem mw_113 : Cond.initialized RJ13 ∈ w_all := w_inT w_s1 16 rfl rfl
theorem mw_128 : Cond.fieldLink RX5 9 "FlapBoard$Tape" "bytes" "[I" ∈ w_all := w_inT w_s1 31 rfl rfl
theorem mw_129 : Cond.fieldLink RX6 51 "FlapBoard$Tape" "size" "I" ∈ w_all := w_inT w_s1 32 rfl rfl
theorem mw_130 : Cond.fieldLink RX5 15 "FlapBoard$Tape" "size" "I" ∈ w_all := w_inT w_s1 33 rfl rfl
theorem mw_131 : Cond.fieldLink RX1 44 "FlapBoard$Tape" "size" "I" ∈ w_all := w_inT w_s1 34 rfl rfl
theorem mw_132 : Cond.fieldLink RX5 19 "FlapBoard$Tape" "at" "I" ∈ w_all := w_inT w_s1 35 rfl rfl
theorem mw_133 : Cond.fieldLink RX4 120 "FlapBoard$Tape" "at" "I" ∈ w_all := w_inT w_s1 36 rfl rfl
theorem mw_134 : Cond.fieldLink RX1 75 "FlapBoard$Tape" "begun" "I" ∈ w_all := w_inT w_s1 37 rfl rfl
theorem mw_135 : Cond.fieldLink RX5 22 "FlapBoard$Tape" "begun" "I" ∈ w_all := w_inT w_s1 38 rfl rfl
theorem mw_136 : Cond.fieldLink RX4 107 "FlapBoard$Tape" "begun" "I" ∈ w_all := w_inT w_s1 39 rfl rfl
theorem mw_137 : Cond.fieldLink RX5 25 "FlapBoard$Tape" "quotedFrom" "I" ∈ w_all := w_inT w_s1 40 rfl rfl
theorem mw_138 : Cond.fieldLink RX1 96 "FlapBoard$Tape" "quotedFrom" "I" ∈ w_all := w_inT w_s1 41 rfl rfl
theorem mw_139 : Cond.fieldLink RX4 97 "FlapBoard$Tape" "quotedFrom" "I" ∈ w_all := w_inT w_s1 42 rfl rfl
theorem mw_140 : Cond.fieldLink RX5 28 "FlapBoard$Tape" "quotedSize" "I" ∈ w_all := w_inT w_s1 43 rfl rfl
theorem mw_141 : Cond.fieldLink RX1 99 "FlapBoard$Tape" "quotedSize" "I" ∈ w_all := w_inT w_s1 44 rfl rfl
theorem mw_142 : Cond.fieldLink RX4 78 "FlapBoard$Tape" "quotedSize" "I" ∈ w_all := w_inT w_s1 45 rfl rfl
theorem mw_143 : Cond.fieldLink RX5 31 "FlapBoard$Tape" "fault" "I" ∈ w_all := w_inT w_s1 46 rfl rfl
theorem mw_144 : Cond.fieldLink RX6 69 "FlapBoard$Tape" "fault" "I" ∈ w_all := w_inT w_s1 47 rfl rfl
theorem mw_160 : Cond.arrayClass .int ∈ w_all := w_inT w_s1 63 rfl rfl
theorem mw_167 : Cond.fieldLink RX0 49 "FlapBoard$Board" "rows" "I" ∈ w_all := w_inT w_s1 70 rfl rfl
theorem mw_168 : Cond.fieldLink RX1 63 "FlapBoard$Board" "rows" "I" ∈ w_all := w_inT w_s1 71 rfl rfl
theorem mw_169 : Cond.fieldLink RX6 94 "FlapBoard$Board" "rows" "I" ∈ w_all := w_inT w_s1 72 rfl rfl
theorem mw_170 : Cond.fieldLink RX4 81 "FlapBoard$Board" "rows" "I" ∈ w_all := w_inT w_s1 73 rfl rfl
theorem mw_171 : Cond.fieldLink RX0 53 "FlapBoard$Board" "wide" "I" ∈ w_all := w_inT w_s1 74 rfl rfl
theorem mw_172 : Cond.fieldLink RX1 66 "FlapBoard$Board" "wide" "I" ∈ w_all := w_inT w_s1 75 rfl rfl
theorem mw_173 : Cond.fieldLink RX4 90 "FlapBoard$Board" "wide" "I" ∈ w_all := w_inT w_s1 76 rfl rfl
theorem mw_174 : Cond.fieldLink RX6 261 "FlapBoard$Board" "wide" "I" ∈ w_all := w_inT w_s1 77 rfl rfl
theorem mw_175 : Cond.fieldLink RX0 56 "FlapBoard$Board" "limit" "I" ∈ w_all := w_inT w_s1 78 rfl rfl
theorem mw_176 : Cond.fieldLink RX1 69 "FlapBoard$Board" "limit" "I" ∈ w_all := w_inT w_s1 79 rfl rfl
theorem mw_177 : Cond.fieldLink RX2 78 "FlapBoard$Board" "limit" "I" ∈ w_all := w_inT w_s1 80 rfl rfl
theorem mw_178 : Cond.fieldLink RX6 146 "FlapBoard$Board" "limit" "I" ∈ w_all := w_inT w_s1 81 rfl rfl
theorem mw_179 : Cond.fieldLink RX0 59 "FlapBoard$Board" "drums" "I" ∈ w_all := w_inT w_s1 82 rfl rfl
theorem mw_180 : Cond.fieldLink RX1 40 "FlapBoard$Board" "drums" "I" ∈ w_all := w_inT w_s1 83 rfl rfl
theorem mw_181 : Cond.fieldLink RX6 80 "FlapBoard$Board" "drums" "I" ∈ w_all := w_inT w_s1 84 rfl rfl
theorem mw_182 : Cond.fieldLink RX0 62 "FlapBoard$Board" "clatter" "I" ∈ w_all := w_inT w_s1 85 rfl rfl
theorem mw_183 : Cond.fieldLink RX2 41 "FlapBoard$Board" "clatter" "I" ∈ w_all := w_inT w_s1 86 rfl rfl
theorem mw_184 : Cond.fieldLink RX6 316 "FlapBoard$Board" "clatter" "I" ∈ w_all := w_inT w_s1 87 rfl rfl
theorem mw_185 : Cond.fieldLink RX0 65 "FlapBoard$Board" "ticks" "I" ∈ w_all := w_inT w_s1 88 rfl rfl
theorem mw_186 : Cond.fieldLink RX2 44 "FlapBoard$Board" "ticks" "I" ∈ w_all := w_inT w_s1 89 rfl rfl
theorem mw_187 : Cond.fieldLink RX6 317 "FlapBoard$Board" "ticks" "I" ∈ w_all := w_inT w_s1 90 rfl rfl
theorem mw_188 : Cond.fieldLink RX0 9 "FlapBoard$Board" "currents" "[I" ∈ w_all := w_inT w_s1 91 rfl rfl
theorem mw_189 : Cond.fieldLink RX6 239 "FlapBoard$Board" "currents" "[I" ∈ w_all := w_inT w_s1 92 rfl rfl
theorem mw_190 : Cond.fieldLink RX0 15 "FlapBoard$Board" "sizes" "[I" ∈ w_all := w_inT w_s1 93 rfl rfl
theorem mw_191 : Cond.fieldLink RX0 18 "FlapBoard$Board" "signs" "[I" ∈ w_all := w_inT w_s1 94 rfl rfl
theorem mw_192 : Cond.fieldLink RX0 21 "FlapBoard$Board" "drumOf" "[I" ∈ w_all := w_inT w_s1 95 rfl rfl
theorem mw_193 : Cond.fieldLink RX6 210 "FlapBoard$Board" "drumOf" "[I" ∈ w_all := w_inT w_s1 96 rfl rfl
theorem mw_194 : Cond.fieldLink RX0 24 "FlapBoard$Board" "shows" "[I" ∈ w_all := w_inT w_s1 97 rfl rfl
theorem mw_195 : Cond.fieldLink RX6 213 "FlapBoard$Board" "shows" "[I" ∈ w_all := w_inT w_s1 98 rfl rfl
theorem mw_196 : Cond.fieldLink RX0 27 "FlapBoard$Board" "believes" "[I" ∈ w_all := w_inT w_s1 99 rfl rfl
theorem mw_197 : Cond.fieldLink RX6 216 "FlapBoard$Board" "believes" "[I" ∈ w_all := w_inT w_s1 100 rfl rfl
theorem mw_198 : Cond.fieldLink RX0 30 "FlapBoard$Board" "wants" "[I" ∈ w_all := w_inT w_s1 101 rfl rfl
theorem mw_199 : Cond.fieldLink RX6 219 "FlapBoard$Board" "wants" "[I" ∈ w_all := w_inT w_s1 102 rfl rfl
theorem mw_200 : Cond.fieldLink RX0 33 "FlapBoard$Board" "loses" "[I" ∈ w_all := w_inT w_s1 103 rfl rfl
theorem mw_201 : Cond.fieldLink RX6 122 "FlapBoard$Board" "loses" "[I" ∈ w_all := w_inT w_s1 104 rfl rfl
theorem mw_202 : Cond.fieldLink RX0 36 "FlapBoard$Board" "steps" "[I" ∈ w_all := w_inT w_s1 105 rfl rfl
theorem mw_203 : Cond.fieldLink RX6 225 "FlapBoard$Board" "steps" "[I" ∈ w_all := w_inT w_s1 106 rfl rfl
theorem mw_204 : Cond.fieldLink RX0 39 "FlapBoard$Board" "founds" "[I" ∈ w_all := w_inT w_s1 107 rfl rfl
theorem mw_205 : Cond.fieldLink RX6 227 "FlapBoard$Board" "founds" "[I" ∈ w_all := w_inT w_s1 108 rfl rfl
theorem mw_206 : Cond.fieldLink RX0 42 "FlapBoard$Board" "wornOf" "[J" ∈ w_all := w_inT w_s1 109 rfl rfl
theorem mw_207 : Cond.fieldLink RX6 230 "FlapBoard$Board" "wornOf" "[J" ∈ w_all := w_inT w_s1 110 rfl rfl
theorem mw_208 : Cond.fieldLink RX0 46 "FlapBoard$Board" "entries" "[I" ∈ w_all := w_inT w_s1 111 rfl rfl
theorem mw_253 : Cond.fieldLink RX2 9 "FlapBoard$Motor" "firstByLeft" "[I" ∈ w_all := w_inT w_s1 156 rfl rfl
theorem mw_254 : Cond.fieldLink RX2 15 "FlapBoard$Motor" "nextCell" "[I" ∈ w_all := w_inT w_s1 157 rfl rfl
theorem mw_255 : Cond.fieldLink RX2 18 "FlapBoard$Motor" "chosen" "[I" ∈ w_all := w_inT w_s1 158 rfl rfl
theorem mw_256 : Cond.fieldLink RX2 28 "FlapBoard$Motor" "size" "I" ∈ w_all := w_inT w_s1 159 rfl rfl
theorem mw_257 : Cond.fieldLink RX6 114 "FlapBoard$Motor" "size" "I" ∈ w_all := w_inT w_s1 160 rfl rfl
theorem mw_258 : Cond.fieldLink RX2 65 "FlapBoard$Motor" "current" "I" ∈ w_all := w_inT w_s1 161 rfl rfl
theorem mw_259 : Cond.fieldLink RX2 51 "FlapBoard$Motor" "ticks" "I" ∈ w_all := w_inT w_s1 162 rfl rfl
theorem mw_260 : Cond.fieldLink RX6 115 "FlapBoard$Motor" "ticks" "I" ∈ w_all := w_inT w_s1 163 rfl rfl
theorem mw_261 : Cond.fieldLink RX2 52 "FlapBoard$Motor" "steps" "I" ∈ w_all := w_inT w_s1 164 rfl rfl
theorem mw_262 : Cond.fieldLink RX6 108 "FlapBoard$Motor" "steps" "I" ∈ w_all := w_inT w_s1 165 rfl rfl
theorem mw_263 : Cond.fieldLink RX2 55 "FlapBoard$Motor" "clatter" "I" ∈ w_all := w_inT w_s1 166 rfl rfl
theorem mw_264 : Cond.fieldLink RX6 298 "FlapBoard$Motor" "clatter" "I" ∈ w_all := w_inT w_s1 167 rfl rfl
theorem mw_265 : Cond.fieldLink RX2 56 "FlapBoard$Motor" "mostCurrent" "I" ∈ w_all := w_inT w_s1 168 rfl rfl
theorem mw_266 : Cond.fieldLink RX6 301 "FlapBoard$Motor" "mostCurrent" "I" ∈ w_all := w_inT w_s1 169 rfl rfl
theorem mw_267 : Cond.fieldLink RX2 59 "FlapBoard$Motor" "loudestTick" "I" ∈ w_all := w_inT w_s1 170 rfl rfl
theorem mw_268 : Cond.fieldLink RX6 310 "FlapBoard$Motor" "loudestTick" "I" ∈ w_all := w_inT w_s1 171 rfl rfl
theorem mw_269 : Cond.fieldLink RX2 62 "FlapBoard$Motor" "loudestClatter" "I" ∈ w_all := w_inT w_s1 172 rfl rfl
theorem mw_270 : Cond.fieldLink RX6 313 "FlapBoard$Motor" "loudestClatter" "I" ∈ w_all := w_inT w_s1 173 rfl rfl
theorem mw_271 : Cond.fieldLink RX2 32 "FlapBoard$Motor" "found" "I" ∈ w_all := w_inT w_s1 174 rfl rfl
theorem mw_272 : Cond.fieldLink RX6 307 "FlapBoard$Motor" "found" "I" ∈ w_all := w_inT w_s1 175 rfl rfl
theorem mw_304 : Cond.fieldLink RX4 11 "FlapBoard$Program" "kinds" "[I" ∈ w_all := w_inT w_s1 207 rfl rfl
theorem mw_305 : Cond.fieldLink RX4 15 "FlapBoard$Program" "ones" "[I" ∈ w_all := w_inT w_s1 208 rfl rfl
theorem mw_306 : Cond.fieldLink RX4 18 "FlapBoard$Program" "twos" "[I" ∈ w_all := w_inT w_s1 209 rfl rfl
theorem mw_307 : Cond.fieldLink RX4 21 "FlapBoard$Program" "quoted" "[I" ∈ w_all := w_inT w_s1 210 rfl rfl
theorem mw_308 : Cond.fieldLink RX4 24 "FlapBoard$Program" "ends" "[I" ∈ w_all := w_inT w_s1 211 rfl rfl
theorem mw_309 : Cond.fieldLink RX4 27 "FlapBoard$Program" "open" "[I" ∈ w_all := w_inT w_s1 212 rfl rfl
theorem mw_310 : Cond.fieldLink RX4 30 "FlapBoard$Program" "again" "[I" ∈ w_all := w_inT w_s1 213 rfl rfl
theorem mw_311 : Cond.fieldLink RX4 44 "FlapBoard$Program" "depth" "I" ∈ w_all := w_inT w_s1 214 rfl rfl
theorem mw_312 : Cond.fieldLink RX4 33 "FlapBoard$Program" "size" "I" ∈ w_all := w_inT w_s1 215 rfl rfl
theorem mw_313 : Cond.fieldLink RX4 41 "FlapBoard$Program" "at" "I" ∈ w_all := w_inT w_s1 216 rfl rfl
theorem mw_314 : Cond.fieldLink RX6 170 "FlapBoard$Program" "at" "I" ∈ w_all := w_inT w_s1 217 rfl rfl
theorem mw_355 : Cond.fieldLink RX6 10 "FlapBoard" "tape" "LFlapBoard$Tape;" ∈ w_all := w_inT w_s2 18 rfl rfl
theorem mw_356 : Cond.fieldLink RX6 19 "FlapBoard" "board" "LFlapBoard$Board;" ∈ w_all := w_inT w_s2 19 rfl rfl
theorem mw_357 : Cond.fieldLink RX6 23 "FlapBoard" "trial" "LFlapBoard$Board;" ∈ w_all := w_inT w_s2 20 rfl rfl
theorem mw_358 : Cond.fieldLink RX6 29 "FlapBoard" "motor" "LFlapBoard$Motor;" ∈ w_all := w_inT w_s2 21 rfl rfl
theorem mw_359 : Cond.fieldLink RX6 36 "FlapBoard" "program" "LFlapBoard$Program;" ∈ w_all := w_inT w_s2 22 rfl rfl
theorem mw_360 : Cond.fieldLink RX6 43 "FlapBoard" "past" "LFlapBoard$Past;" ∈ w_all := w_inT w_s2 23 rfl rfl
theorem mw_361 : Cond.fieldLink RX6 47 "FlapBoard" "shelves" "[LFlapBoard$Board;" ∈ w_all := w_inT w_s2 24 rfl rfl
theorem mw_381 : Cond.methodLink RX6 55 yX5_addNumber ∈ w_all := w_inT w_s2 44 rfl rfl
theorem mw_382 : Cond.instanceMethod yX5_addNumber ∈ w_all := w_inT w_s2 45 rfl rfl
theorem mw_383 : Cond.selects RX5 yX5_addNumber yX5_addNumber ∈ w_all := w_inT w_s2 46 rfl rfl
theorem mw_384 : Cond.code yX5_addNumber cX5_addNumber 3 none ∈ w_all := w_inT w_s2 47 rfl rfl
theorem mw_393 : Cond.methodLink RX6 59 yX1_readInto ∈ w_all := w_inT w_s2 56 rfl rfl
theorem mw_394 : Cond.static yX1_readInto ∈ w_all := w_inT w_s2 57 rfl rfl
theorem mw_395 : Cond.code yX1_readInto cX1_readInto 3 none ∈ w_all := w_inT w_s2 58 rfl rfl
theorem mw_396 : Cond.methodLink RX1 9 yX0_clear ∈ w_all := w_inT w_s2 59 rfl rfl
theorem mw_397 : Cond.instanceMethod yX0_clear ∈ w_all := w_inT w_s2 60 rfl rfl
theorem mw_398 : Cond.selects RX0 yX0_clear yX0_clear ∈ w_all := w_inT w_s2 61 rfl rfl
theorem mw_399 : Cond.code yX0_clear cX0_clear 2 none ∈ w_all := w_inT w_s2 62 rfl rfl
theorem mw_400 : Cond.methodLink RX0 68 yX0_makeCell ∈ w_all := w_inT w_s2 63 rfl rfl
theorem mw_401 : Cond.instanceMethod yX0_makeCell ∈ w_all := w_inT w_s2 64 rfl rfl
theorem mw_402 : Cond.selects RX0 yX0_makeCell yX0_makeCell ∈ w_all := w_inT w_s2 65 rfl rfl
theorem mw_403 : Cond.code yX0_makeCell cX0_makeCell 3 none ∈ w_all := w_inT w_s2 66 rfl rfl
theorem mw_404 : Cond.methodLink RX1 14 yX5_startReading ∈ w_all := w_inT w_s2 67 rfl rfl
theorem mw_405 : Cond.instanceMethod yX5_startReading ∈ w_all := w_inT w_s2 68 rfl rfl
theorem mw_406 : Cond.selects RX5 yX5_startReading yX5_startReading ∈ w_all := w_inT w_s2 69 rfl rfl
theorem mw_407 : Cond.code yX5_startReading cX5_startReading 1 none ∈ w_all := w_inT w_s2 70 rfl rfl
theorem mw_408 : Cond.methodLink RX1 19 yX1_readHead ∈ w_all := w_inT w_s2 71 rfl rfl
theorem mw_409 : Cond.static yX1_readHead ∈ w_all := w_inT w_s2 72 rfl rfl
theorem mw_410 : Cond.code yX1_readHead cX1_readHead 6 none ∈ w_all := w_inT w_s2 73 rfl rfl
theorem mw_411 : Cond.methodLink RX1 51 yX5_takeThisWord ∈ w_all := w_inT w_s2 74 rfl rfl
theorem mw_412 : Cond.instanceMethod yX5_takeThisWord ∈ w_all := w_inT w_s2 75 rfl rfl
theorem mw_413 : Cond.selects RX5 yX5_takeThisWord yX5_takeThisWord ∈ w_all := w_inT w_s2 76 rfl rfl
theorem mw_414 : Cond.code yX5_takeThisWord cX5_takeThisWord 2 none ∈ w_all := w_inT w_s2 77 rfl rfl
theorem mw_415 : Cond.methodLink RX5 49 yX5_takeWord ∈ w_all := w_inT w_s2 78 rfl rfl
theorem mw_416 : Cond.instanceMethod yX5_takeWord ∈ w_all := w_inT w_s2 79 rfl rfl
theorem mw_417 : Cond.selects RX5 yX5_takeWord yX5_takeWord ∈ w_all := w_inT w_s2 80 rfl rfl
theorem mw_418 : Cond.code yX5_takeWord cX5_takeWord 1 (some .int) ∈ w_all := w_inT w_s2 81 rfl rfl
theorem mw_419 : Cond.methodLink RX5 34 yX5_peek ∈ w_all := w_inT w_s2 82 rfl rfl
theorem mw_420 : Cond.instanceMethod yX5_peek ∈ w_all := w_inT w_s2 83 rfl rfl
theorem mw_421 : Cond.selects RX5 yX5_peek yX5_peek ∈ w_all := w_inT w_s2 84 rfl rfl
theorem mw_422 : Cond.code yX5_peek cX5_peek 1 (some .int) ∈ w_all := w_inT w_s2 85 rfl rfl
theorem mw_423 : Cond.methodLink RX5 42 yX5_byteAt ∈ w_all := w_inT w_s2 86 rfl rfl
theorem mw_424 : Cond.instanceMethod yX5_byteAt ∈ w_all := w_inT w_s2 87 rfl rfl
theorem mw_425 : Cond.selects RX5 yX5_byteAt yX5_byteAt ∈ w_all := w_inT w_s2 88 rfl rfl
theorem mw_426 : Cond.code yX5_byteAt cX5_byteAt 2 (some .int) ∈ w_all := w_inT w_s2 89 rfl rfl
theorem mw_427 : Cond.methodLink RX5 46 yX5_wordRead ∈ w_all := w_inT w_s2 90 rfl rfl
theorem mw_429 : Cond.instanceMethod yX5_wordRead ∈ w_all := w_inT w_s2 92 rfl rfl
theorem mw_430 : Cond.code yX5_wordRead cX5_wordRead 1 (some .int) ∈ w_all := w_inT w_s2 93 rfl rfl
theorem mw_432 : Cond.methodLink RX5 54 yX5_isRead ∈ w_all := w_inT w_s2 95 rfl rfl
theorem mw_434 : Cond.instanceMethod yX5_isRead ∈ w_all := w_inT w_s2 97 rfl rfl
theorem mw_435 : Cond.code yX5_isRead cX5_isRead 3 (some .boolean) ∈ w_all := w_inT w_s2 98 rfl rfl
theorem mw_436 : Cond.methodLink RX5 80 yJ0_length_8abf5 ∈ w_all := w_inT w_s2 99 rfl rfl
theorem mw_437 : Cond.instanceMethod yJ0_length_8abf5 ∈ w_all := w_inT w_s2 100 rfl rfl
theorem mw_438 : Cond.selects RJ0 yJ0_length_8abf5 yJ0_length_8abf5 ∈ w_all := w_inT w_s2 101 rfl rfl
theorem mw_439 : Cond.code yJ0_length_8abf5 cJ0_length_8abf5 1 (some .int) ∈ w_all := w_inT w_s2 102 rfl rfl
theorem mw_440 : Cond.methodLink RJ0 335 yJ0_coder_7d493 ∈ w_all := w_inT w_s2 103 rfl rfl
theorem mw_441 : Cond.instanceMethod yJ0_coder_7d493 ∈ w_all := w_inT w_s2 104 rfl rfl
theorem mw_442 : Cond.selects RJ0 yJ0_coder_7d493 yJ0_coder_7d493 ∈ w_all := w_inT w_s2 105 rfl rfl
theorem mw_443 : Cond.code yJ0_coder_7d493 cJ0_coder_7d493 1 (some .byte) ∈ w_all := w_inT w_s2 106 rfl rfl
theorem mw_444 : Cond.fieldLink RJ0 38 "java/lang/String" "COMPACT_STRINGS" "Z" ∈ w_all := w_inT w_s2 107 rfl rfl
theorem mw_446 : Cond.methodLink RX5 85 yJ0_charAt_5068e ∈ w_all := w_inT w_s2 109 rfl rfl
theorem mw_447 : Cond.instanceMethod yJ0_charAt_5068e ∈ w_all := w_inT w_s2 110 rfl rfl
theorem mw_448 : Cond.selects RJ0 yJ0_charAt_5068e yJ0_charAt_5068e ∈ w_all := w_inT w_s2 111 rfl rfl
theorem mw_449 : Cond.code yJ0_charAt_5068e cJ0_charAt_5068e 2 (some .char) ∈ w_all := w_inT w_s2 112 rfl rfl
theorem mw_450 : Cond.methodLink RJ0 492 yJ0_isLatin1_aae02 ∈ w_all := w_inT w_s2 113 rfl rfl
theorem mw_451 : Cond.instanceMethod yJ0_isLatin1_aae02 ∈ w_all := w_inT w_s2 114 rfl rfl
theorem mw_452 : Cond.selects RJ0 yJ0_isLatin1_aae02 yJ0_isLatin1_aae02 ∈ w_all := w_inT w_s2 115 rfl rfl
theorem mw_453 : Cond.code yJ0_isLatin1_aae02 cJ0_isLatin1_aae02 1 (some .boolean) ∈ w_all := w_inT w_s2 116 rfl rfl
theorem mw_454 : Cond.methodLink RJ0 495 yJ1_charAt_3b067 ∈ w_all := w_inT w_s2 117 rfl rfl
theorem mw_455 : Cond.static yJ1_charAt_3b067 ∈ w_all := w_inT w_s2 118 rfl rfl
theorem mw_456 : Cond.code yJ1_charAt_3b067 cJ1_charAt_3b067 2 (some .char) ∈ w_all := w_inT w_s2 119 rfl rfl
theorem mw_457 : Cond.methodLink RJ1 9 yJ0_checkIndex_df160 ∈ w_all := w_inT w_s2 120 rfl rfl
theorem mw_458 : Cond.static yJ0_checkIndex_df160 ∈ w_all := w_inT w_s2 121 rfl rfl
theorem mw_459 : Cond.code yJ0_checkIndex_df160 cJ0_checkIndex_df160 2 none ∈ w_all := w_inT w_s2 122 rfl rfl
theorem mw_460 : Cond.fieldLink RJ0 1053 "jdk/internal/util/Preconditions" "SIOOBE_FORMATTER" "Ljava/util/function/BiFunction;" ∈ w_all := w_inT w_s2 123 rfl rfl
theorem mw_462 : Cond.methodLink RJ0 1059 yJ3_checkIndex_8e157 ∈ w_all := w_inT w_s2 125 rfl rfl
theorem mw_463 : Cond.static yJ3_checkIndex_8e157 ∈ w_all := w_inT w_s2 126 rfl rfl
theorem mw_464 : Cond.code yJ3_checkIndex_8e157 cJ3_checkIndex_8e157 3 (some .int) ∈ w_all := w_inT w_s2 127 rfl rfl
theorem mw_495 : Cond.methodLink RX5 38 yX5_blame ∈ w_all := w_inT w_s2 158 rfl rfl
theorem mw_496 : Cond.instanceMethod yX5_blame ∈ w_all := w_inT w_s2 159 rfl rfl
theorem mw_497 : Cond.selects RX5 yX5_blame yX5_blame ∈ w_all := w_inT w_s2 160 rfl rfl
theorem mw_498 : Cond.code yX5_blame cX5_blame 3 none ∈ w_all := w_inT w_s2 161 rfl rfl
theorem mw_499 : Cond.methodLink RX1 54 yX5_takeNumber ∈ w_all := w_inT w_s2 162 rfl rfl
theorem mw_500 : Cond.instanceMethod yX5_takeNumber ∈ w_all := w_inT w_s2 163 rfl rfl
theorem mw_501 : Cond.selects RX5 yX5_takeNumber yX5_takeNumber ∈ w_all := w_inT w_s2 164 rfl rfl
theorem mw_502 : Cond.code yX5_takeNumber cX5_takeNumber 4 (some .int) ∈ w_all := w_inT w_s2 165 rfl rfl
theorem mw_503 : Cond.methodLink RX5 89 Lib.Math.min.name ∈ w_all := w_inT w_s2 166 rfl rfl
theorem mw_504 : Cond.static Lib.Math.min.name ∈ w_all := w_inT w_s2 167 rfl rfl
theorem mw_505 : Cond.code Lib.Math.min.name Lib.Math.min.code 2 (some .int) ∈ w_all := w_inT w_s2 168 rfl rfl
theorem mw_506 : Cond.methodLink RX1 58 Lib.Math.min.name ∈ w_all := w_inT w_s2 169 rfl rfl
theorem mw_507 : Cond.methodLink RX1 25 yX5_isSound ∈ w_all := w_inT w_s2 170 rfl rfl
theorem mw_508 : Cond.instanceMethod yX5_isSound ∈ w_all := w_inT w_s2 171 rfl rfl
theorem mw_509 : Cond.selects RX5 yX5_isSound yX5_isSound ∈ w_all := w_inT w_s2 172 rfl rfl
theorem mw_510 : Cond.code yX5_isSound cX5_isSound 1 (some .boolean) ∈ w_all := w_inT w_s2 173 rfl rfl
theorem mw_511 : Cond.methodLink RX1 29 yX5_peek ∈ w_all := w_inT w_s2 174 rfl rfl
theorem mw_512 : Cond.methodLink RX1 33 yX5_takeByte ∈ w_all := w_inT w_s2 175 rfl rfl
theorem mw_513 : Cond.instanceMethod yX5_takeByte ∈ w_all := w_inT w_s2 176 rfl rfl
theorem mw_514 : Cond.selects RX5 yX5_takeByte yX5_takeByte ∈ w_all := w_inT w_s2 177 rfl rfl
theorem mw_515 : Cond.code yX5_takeByte cX5_takeByte 2 none ∈ w_all := w_inT w_s2 178 rfl rfl
theorem mw_516 : Cond.methodLink RX1 37 yX1_readPart ∈ w_all := w_inT w_s2 179 rfl rfl
theorem mw_517 : Cond.static yX1_readPart ∈ w_all := w_inT w_s2 180 rfl rfl
theorem mw_518 : Cond.code yX1_readPart cX1_readPart 4 none ∈ w_all := w_inT w_s2 181 rfl rfl
theorem mw_519 : Cond.methodLink RX1 72 yX5_takeWord ∈ w_all := w_inT w_s2 182 rfl rfl
theorem mw_520 : Cond.methodLink RX1 47 yX5_blame ∈ w_all := w_inT w_s2 183 rfl rfl
theorem mw_521 : Cond.methodLink RX1 78 yX1_readDrum ∈ w_all := w_inT w_s2 184 rfl rfl
theorem mw_522 : Cond.static yX1_readDrum ∈ w_all := w_inT w_s2 185 rfl rfl
theorem mw_523 : Cond.code yX1_readDrum cX1_readDrum 3 none ∈ w_all := w_inT w_s2 186 rfl rfl
theorem mw_524 : Cond.methodLink RX1 93 yX5_takeQuoted ∈ w_all := w_inT w_s2 187 rfl rfl
theorem mw_525 : Cond.instanceMethod yX5_takeQuoted ∈ w_all := w_inT w_s2 188 rfl rfl
theorem mw_526 : Cond.selects RX5 yX5_takeQuoted yX5_takeQuoted ∈ w_all := w_inT w_s2 189 rfl rfl
theorem mw_527 : Cond.code yX5_takeQuoted cX5_takeQuoted 3 none ∈ w_all := w_inT w_s2 190 rfl rfl
theorem mw_528 : Cond.methodLink RX5 95 yX5_takeByte ∈ w_all := w_inT w_s2 191 rfl rfl
theorem mw_529 : Cond.methodLink RX5 99 yX5_isSound ∈ w_all := w_inT w_s2 192 rfl rfl
theorem mw_531 : Cond.static yX6_isSign ∈ w_all := w_inT w_s2 194 rfl rfl
theorem mw_532 : Cond.code yX6_isSign cX6_isSign 1 (some .boolean) ∈ w_all := w_inT w_s2 195 rfl rfl
theorem mw_533 : Cond.methodLink RX1 102 yX0_addDrum ∈ w_all := w_inT w_s2 196 rfl rfl
theorem mw_534 : Cond.instanceMethod yX0_addDrum ∈ w_all := w_inT w_s2 197 rfl rfl
theorem mw_535 : Cond.selects RX0 yX0_addDrum yX0_addDrum ∈ w_all := w_inT w_s2 198 rfl rfl
theorem mw_536 : Cond.code yX0_addDrum cX0_addDrum 6 none ∈ w_all := w_inT w_s2 199 rfl rfl
theorem mw_537 : Cond.methodLink RX0 76 yX5_byteAt ∈ w_all := w_inT w_s2 200 rfl rfl
theorem mw_538 : Cond.methodLink RX1 81 yX1_readCells ∈ w_all := w_inT w_s2 201 rfl rfl
theorem mw_539 : Cond.static yX1_readCells ∈ w_all := w_inT w_s2 202 rfl rfl
theorem mw_540 : Cond.code yX1_readCells cX1_readCells 7 none ∈ w_all := w_inT w_s2 203 rfl rfl
theorem mw_541 : Cond.methodLink RX1 106 yX0_cells ∈ w_all := w_inT w_s2 204 rfl rfl
theorem mw_542 : Cond.instanceMethod yX0_cells ∈ w_all := w_inT w_s2 205 rfl rfl
theorem mw_543 : Cond.selects RX0 yX0_cells yX0_cells ∈ w_all := w_inT w_s2 206 rfl rfl
theorem mw_544 : Cond.code yX0_cells cX0_cells 1 (some .int) ∈ w_all := w_inT w_s2 207 rfl rfl
theorem mw_545 : Cond.methodLink RX1 109 yX0_makeCell ∈ w_all := w_inT w_s2 208 rfl rfl
theorem mw_546 : Cond.methodLink RX1 84 yX1_readWorn ∈ w_all := w_inT w_s2 209 rfl rfl
theorem mw_547 : Cond.static yX1_readWorn ∈ w_all := w_inT w_s2 210 rfl rfl
theorem mw_548 : Cond.code yX1_readWorn cX1_readWorn 4 none ∈ w_all := w_inT w_s2 211 rfl rfl
theorem mw_549 : Cond.methodLink RX1 112 yX0_flapsOf ∈ w_all := w_inT w_s2 212 rfl rfl
theorem mw_550 : Cond.instanceMethod yX0_flapsOf ∈ w_all := w_inT w_s2 213 rfl rfl
theorem mw_551 : Cond.selects RX0 yX0_flapsOf yX0_flapsOf ∈ w_all := w_inT w_s2 214 rfl rfl
theorem mw_552 : Cond.code yX0_flapsOf cX0_flapsOf 3 (some .int) ∈ w_all := w_inT w_s2 215 rfl rfl
theorem mw_553 : Cond.methodLink RX1 116 yX0_isWorn ∈ w_all := w_inT w_s2 216 rfl rfl
theorem mw_554 : Cond.instanceMethod yX0_isWorn ∈ w_all := w_inT w_s2 217 rfl rfl
theorem mw_555 : Cond.selects RX0 yX0_isWorn yX0_isWorn ∈ w_all := w_inT w_s2 218 rfl rfl
theorem mw_556 : Cond.code yX0_isWorn cX0_isWorn 3 (some .boolean) ∈ w_all := w_inT w_s2 219 rfl rfl
theorem mw_557 : Cond.methodLink RX1 120 yX0_wearFlap ∈ w_all := w_inT w_s2 220 rfl rfl
theorem mw_558 : Cond.instanceMethod yX0_wearFlap ∈ w_all := w_inT w_s2 221 rfl rfl
theorem mw_559 : Cond.selects RX0 yX0_wearFlap yX0_wearFlap ∈ w_all := w_inT w_s2 222 rfl rfl
theorem mw_560 : Cond.code yX0_wearFlap cX0_wearFlap 3 none ∈ w_all := w_inT w_s2 223 rfl rfl
theorem mw_561 : Cond.methodLink RX1 87 yX1_readRow ∈ w_all := w_inT w_s2 224 rfl rfl
theorem mw_562 : Cond.static yX1_readRow ∈ w_all := w_inT w_s2 225 rfl rfl
theorem mw_563 : Cond.code yX1_readRow cX1_readRow 3 none ∈ w_all := w_inT w_s2 226 rfl rfl
theorem mw_564 : Cond.methodLink RX1 123 yX0_showSigns ∈ w_all := w_inT w_s2 227 rfl rfl
theorem mw_565 : Cond.instanceMethod yX0_showSigns ∈ w_all := w_inT w_s2 228 rfl rfl
theorem mw_566 : Cond.selects RX0 yX0_showSigns yX0_showSigns ∈ w_all := w_inT w_s2 229 rfl rfl
theorem mw_567 : Cond.code yX0_showSigns cX0_showSigns 8 none ∈ w_all := w_inT w_s2 230 rfl rfl
theorem mw_568 : Cond.methodLink RX0 157 yX0_flapFor ∈ w_all := w_inT w_s2 231 rfl rfl
theorem mw_570 : Cond.instanceMethod yX0_flapFor ∈ w_all := w_inT w_s2 233 rfl rfl
theorem mw_571 : Cond.code yX0_flapFor cX0_flapFor 6 (some .int) ∈ w_all := w_inT w_s2 234 rfl rfl
theorem mw_572 : Cond.methodLink RX0 137 yX0_nearest ∈ w_all := w_inT w_s2 235 rfl rfl
theorem mw_573 : Cond.instanceMethod yX0_nearest ∈ w_all := w_inT w_s2 236 rfl rfl
theorem mw_574 : Cond.selects RX0 yX0_nearest yX0_nearest ∈ w_all := w_inT w_s2 237 rfl rfl
theorem mw_575 : Cond.code yX0_nearest cX0_nearest 10 (some .int) ∈ w_all := w_inT w_s2 238 rfl rfl
theorem mw_576 : Cond.constantLong RX0 152 (-1) ∈ w_all := w_inT w_s2 239 rfl rfl
theorem mw_577 : Cond.methodLink RX1 90 yX1_readLose ∈ w_all := w_inT w_s3 0 rfl rfl
theorem mw_578 : Cond.static yX1_readLose ∈ w_all := w_inT w_s3 1 rfl rfl
theorem mw_579 : Cond.code yX1_readLose cX1_readLose 4 none ∈ w_all := w_inT w_s3 2 rfl rfl
theorem mw_580 : Cond.methodLink RX1 126 yX0_setLost ∈ w_all := w_inT w_s3 3 rfl rfl
theorem mw_581 : Cond.instanceMethod yX0_setLost ∈ w_all := w_inT w_s3 4 rfl rfl
theorem mw_582 : Cond.selects RX0 yX0_setLost yX0_setLost ∈ w_all := w_inT w_s3 5 rfl rfl
theorem mw_583 : Cond.code yX0_setLost cX0_setLost 3 none ∈ w_all := w_inT w_s3 6 rfl rfl
theorem mw_584 : Cond.methodLink RX0 72 yX0_hasCell ∈ w_all := w_inT w_s3 7 rfl rfl
theorem mw_585 : Cond.instanceMethod yX0_hasCell ∈ w_all := w_inT w_s3 8 rfl rfl
theorem mw_586 : Cond.selects RX0 yX0_hasCell yX0_hasCell ∈ w_all := w_inT w_s3 9 rfl rfl
theorem mw_587 : Cond.code yX0_hasCell cX0_hasCell 2 (some .boolean) ∈ w_all := w_inT w_s3 10 rfl rfl
theorem mw_588 : Cond.methodLink RX0 102 yX0_cells ∈ w_all := w_inT w_s3 11 rfl rfl
theorem mw_589 : Cond.methodLink RX6 65 yX5_isSound ∈ w_all := w_inT w_s3 12 rfl rfl
theorem mw_590 : Cond.methodLink RX6 72 yX0_copyAllButLog ∈ w_all := w_inT w_s3 13 rfl rfl
theorem mw_591 : Cond.instanceMethod yX0_copyAllButLog ∈ w_all := w_inT w_s3 14 rfl rfl
theorem mw_592 : Cond.selects RX0 yX0_copyAllButLog yX0_copyAllButLog ∈ w_all := w_inT w_s3 15 rfl rfl
theorem mw_593 : Cond.code yX0_copyAllButLog cX0_copyAllButLog 3 none ∈ w_all := w_inT w_s3 16 rfl rfl
theorem mw_594 : Cond.methodLink RX0 96 arraycopyName ∈ w_all := w_inT w_s3 17 rfl rfl
theorem mw_595 : Cond.static arraycopyName ∈ w_all := w_inT w_s3 18 rfl rfl
theorem mw_596 : Cond.native arraycopyName ∈ w_all := w_inT w_s3 19 rfl rfl
theorem mw_597 : Cond.methodLink RX6 76 yX0_emptyLog ∈ w_all := w_inT w_s3 20 rfl rfl
theorem mw_598 : Cond.instanceMethod yX0_emptyLog ∈ w_all := w_inT w_s3 21 rfl rfl
theorem mw_599 : Cond.selects RX0 yX0_emptyLog yX0_emptyLog ∈ w_all := w_inT w_s3 22 rfl rfl
theorem mw_600 : Cond.code yX0_emptyLog cX0_emptyLog 2 none ∈ w_all := w_inT w_s3 23 rfl rfl
theorem mw_601 : Cond.methodLink RX0 86 yX0_entryCount ∈ w_all := w_inT w_s3 24 rfl rfl
theorem mw_602 : Cond.instanceMethod yX0_entryCount ∈ w_all := w_inT w_s3 25 rfl rfl
theorem mw_603 : Cond.selects RX0 yX0_entryCount yX0_entryCount ∈ w_all := w_inT w_s3 26 rfl rfl
theorem mw_604 : Cond.code yX0_entryCount cX0_entryCount 1 (some .int) ∈ w_all := w_inT w_s3 27 rfl rfl
theorem mw_605 : Cond.methodLink RX0 171 yX0_entryStart ∈ w_all := w_inT w_s3 28 rfl rfl
theorem mw_607 : Cond.instanceMethod yX0_entryStart ∈ w_all := w_inT w_s3 30 rfl rfl
theorem mw_608 : Cond.code yX0_entryStart cX0_entryStart 4 (some .int) ∈ w_all := w_inT w_s3 31 rfl rfl
theorem mw_609 : Cond.methodLink RX0 183 yJ7_fill_53178 ∈ w_all := w_inT w_s3 32 rfl rfl
theorem mw_610 : Cond.static yJ7_fill_53178 ∈ w_all := w_inT w_s3 33 rfl rfl
theorem mw_611 : Cond.code yJ7_fill_53178 cJ7_fill_53178 4 none ∈ w_all := w_inT w_s3 34 rfl rfl
theorem mw_617 : Cond.methodLink RX6 83 yX6_whyNotRow ∈ w_all := w_inT w_s3 40 rfl rfl
theorem mw_619 : Cond.instanceMethod yX6_whyNotRow ∈ w_all := w_inT w_s3 42 rfl rfl
theorem mw_620 : Cond.code yX6_whyNotRow cX6_whyNotRow 2 (some .int) ∈ w_all := w_inT w_s3 43 rfl rfl
theorem mw_621 : Cond.methodLink RX6 258 yX0_hasRow ∈ w_all := w_inT w_s3 44 rfl rfl
theorem mw_622 : Cond.instanceMethod yX0_hasRow ∈ w_all := w_inT w_s3 45 rfl rfl
theorem mw_623 : Cond.selects RX0 yX0_hasRow yX0_hasRow ∈ w_all := w_inT w_s3 46 rfl rfl
theorem mw_624 : Cond.code yX0_hasRow cX0_hasRow 2 (some .boolean) ∈ w_all := w_inT w_s3 47 rfl rfl
theorem mw_625 : Cond.methodLink RX6 329 yX6_isRowText ∈ w_all := w_inT w_s3 48 rfl rfl
theorem mw_627 : Cond.instanceMethod yX6_isRowText ∈ w_all := w_inT w_s3 50 rfl rfl
theorem mw_628 : Cond.code yX6_isRowText cX6_isRowText 4 (some .boolean) ∈ w_all := w_inT w_s3 51 rfl rfl
theorem mw_629 : Cond.methodLink RX6 326 yX5_byteAt ∈ w_all := w_inT w_s3 52 rfl rfl
theorem mw_630 : Cond.methodLink RX6 335 yX6_isSign ∈ w_all := w_inT w_s3 53 rfl rfl
theorem mw_640 : Cond.methodLink RX0 82 yX0_copyAllButLog ∈ w_all := w_inT w_s3 63 rfl rfl
theorem mw_641 : Cond.methodLink RX0 90 Lib.Math.min.name ∈ w_all := w_inT w_s3 64 rfl rfl
theorem mw_643 : Cond.methodLink RX6 90 yX0_wantSigns ∈ w_all := w_inT w_s3 66 rfl rfl
theorem mw_644 : Cond.instanceMethod yX0_wantSigns ∈ w_all := w_inT w_s3 67 rfl rfl
theorem mw_645 : Cond.selects RX0 yX0_wantSigns yX0_wantSigns ∈ w_all := w_inT w_s3 68 rfl rfl
theorem mw_646 : Cond.code yX0_wantSigns cX0_wantSigns 8 (some .int) ∈ w_all := w_inT w_s3 69 rfl rfl
theorem mw_647 : Cond.methodLink RX0 164 yX0_wantFlap ∈ w_all := w_inT w_s3 70 rfl rfl
theorem mw_649 : Cond.instanceMethod yX0_wantFlap ∈ w_all := w_inT w_s3 72 rfl rfl
theorem mw_650 : Cond.code yX0_wantFlap cX0_wantFlap 5 (some .int) ∈ w_all := w_inT w_s3 73 rfl rfl
theorem mw_651 : Cond.methodLink RX0 105 yX0_flapsOf ∈ w_all := w_inT w_s3 74 rfl rfl
theorem mw_656 : Cond.methodLink RX6 97 yX0_scrollUp ∈ w_all := w_inT w_s3 79 rfl rfl
theorem mw_657 : Cond.instanceMethod yX0_scrollUp ∈ w_all := w_inT w_s3 80 rfl rfl
theorem mw_658 : Cond.selects RX0 yX0_scrollUp yX0_scrollUp ∈ w_all := w_inT w_s3 81 rfl rfl
theorem mw_659 : Cond.code yX0_scrollUp cX0_scrollUp 6 (some .int) ∈ w_all := w_inT w_s3 82 rfl rfl
theorem mw_660 : Cond.methodLink RX0 117 yX0_wantedSign ∈ w_all := w_inT w_s3 83 rfl rfl
theorem mw_661 : Cond.instanceMethod yX0_wantedSign ∈ w_all := w_inT w_s3 84 rfl rfl
theorem mw_662 : Cond.selects RX0 yX0_wantedSign yX0_wantedSign ∈ w_all := w_inT w_s3 85 rfl rfl
theorem mw_663 : Cond.code yX0_wantedSign cX0_wantedSign 2 (some .int) ∈ w_all := w_inT w_s3 86 rfl rfl
theorem mw_664 : Cond.methodLink RX0 114 yX0_signOn ∈ w_all := w_inT w_s3 87 rfl rfl
theorem mw_665 : Cond.instanceMethod yX0_signOn ∈ w_all := w_inT w_s3 88 rfl rfl
theorem mw_666 : Cond.selects RX0 yX0_signOn yX0_signOn ∈ w_all := w_inT w_s3 89 rfl rfl
theorem mw_667 : Cond.code yX0_signOn cX0_signOn 3 (some .int) ∈ w_all := w_inT w_s3 90 rfl rfl
theorem mw_668 : Cond.methodLink RX0 111 yX0_signOf ∈ w_all := w_inT w_s3 91 rfl rfl
theorem mw_669 : Cond.instanceMethod yX0_signOf ∈ w_all := w_inT w_s3 92 rfl rfl
theorem mw_670 : Cond.selects RX0 yX0_signOf yX0_signOf ∈ w_all := w_inT w_s3 93 rfl rfl
theorem mw_671 : Cond.code yX0_signOf cX0_signOf 3 (some .int) ∈ w_all := w_inT w_s3 94 rfl rfl
theorem mw_672 : Cond.methodLink RX0 167 yX0_wantSigns ∈ w_all := w_inT w_s3 95 rfl rfl
theorem mw_677 : Cond.methodLink RX6 101 yX0_isThere ∈ w_all := w_inT w_s3 100 rfl rfl
theorem mw_678 : Cond.instanceMethod yX0_isThere ∈ w_all := w_inT w_s3 101 rfl rfl
theorem mw_679 : Cond.selects RX0 yX0_isThere yX0_isThere ∈ w_all := w_inT w_s3 102 rfl rfl
theorem mw_680 : Cond.code yX0_isThere cX0_isThere 1 (some .boolean) ∈ w_all := w_inT w_s3 103 rfl rfl
theorem mw_681 : Cond.methodLink RX6 104 yX2_turn ∈ w_all := w_inT w_s3 104 rfl rfl
theorem mw_682 : Cond.instanceMethod yX2_turn ∈ w_all := w_inT w_s3 105 rfl rfl
theorem mw_683 : Cond.selects RX2 yX2_turn yX2_turn ∈ w_all := w_inT w_s3 106 rfl rfl
theorem mw_684 : Cond.code yX2_turn cX2_turn 5 none ∈ w_all := w_inT w_s3 107 rfl rfl
theorem mw_685 : Cond.methodLink RX2 21 yX2_startCounting ∈ w_all := w_inT w_s3 108 rfl rfl
theorem mw_687 : Cond.instanceMethod yX2_startCounting ∈ w_all := w_inT w_s3 110 rfl rfl
theorem mw_688 : Cond.code yX2_startCounting cX2_startCounting 1 none ∈ w_all := w_inT w_s3 111 rfl rfl
theorem mw_689 : Cond.methodLink RX2 24 yX2_choose ∈ w_all := w_inT w_s3 112 rfl rfl
theorem mw_690 : Cond.instanceMethod yX2_choose ∈ w_all := w_inT w_s3 113 rfl rfl
theorem mw_691 : Cond.selects RX2 yX2_choose yX2_choose ∈ w_all := w_inT w_s3 114 rfl rfl
theorem mw_692 : Cond.code yX2_choose cX2_choose 7 none ∈ w_all := w_inT w_s3 115 rfl rfl
theorem mw_693 : Cond.methodLink RX2 74 yX2_sortByLeft ∈ w_all := w_inT w_s3 116 rfl rfl
theorem mw_695 : Cond.instanceMethod yX2_sortByLeft ∈ w_all := w_inT w_s3 118 rfl rfl
theorem mw_696 : Cond.code yX2_sortByLeft cX2_sortByLeft 5 (some .int) ∈ w_all := w_inT w_s3 119 rfl rfl
theorem mw_697 : Cond.methodLink RX2 84 yJ7_fill_53178 ∈ w_all := w_inT w_s3 120 rfl rfl
theorem mw_698 : Cond.methodLink RX2 90 yX0_cells ∈ w_all := w_inT w_s3 121 rfl rfl
theorem mw_699 : Cond.methodLink RX2 94 yX0_leftOf ∈ w_all := w_inT w_s3 122 rfl rfl
theorem mw_700 : Cond.instanceMethod yX0_leftOf ∈ w_all := w_inT w_s3 123 rfl rfl
theorem mw_701 : Cond.selects RX0 yX0_leftOf yX0_leftOf ∈ w_all := w_inT w_s3 124 rfl rfl
theorem mw_702 : Cond.code yX0_leftOf cX0_leftOf 4 (some .int) ∈ w_all := w_inT w_s3 125 rfl rfl
theorem mw_703 : Cond.methodLink RX2 68 Lib.Math.max.name ∈ w_all := w_inT w_s3 126 rfl rfl
theorem mw_704 : Cond.static Lib.Math.max.name ∈ w_all := w_inT w_s3 127 rfl rfl
theorem mw_705 : Cond.code Lib.Math.max.name Lib.Math.max.code 2 (some .int) ∈ w_all := w_inT w_s3 128 rfl rfl
theorem mw_706 : Cond.methodLink RX2 81 yX0_currentOf ∈ w_all := w_inT w_s3 129 rfl rfl
theorem mw_707 : Cond.instanceMethod yX0_currentOf ∈ w_all := w_inT w_s3 130 rfl rfl
theorem mw_708 : Cond.selects RX0 yX0_currentOf yX0_currentOf ∈ w_all := w_inT w_s3 131 rfl rfl
theorem mw_709 : Cond.code yX0_currentOf cX0_currentOf 3 (some .int) ∈ w_all := w_inT w_s3 132 rfl rfl
theorem mw_710 : Cond.methodLink RX2 35 yX0_stepOn ∈ w_all := w_inT w_s3 133 rfl rfl
theorem mw_711 : Cond.instanceMethod yX0_stepOn ∈ w_all := w_inT w_s3 134 rfl rfl
theorem mw_712 : Cond.selects RX0 yX0_stepOn yX0_stepOn ∈ w_all := w_inT w_s3 135 rfl rfl
theorem mw_713 : Cond.code yX0_stepOn cX0_stepOn 5 (some .int) ∈ w_all := w_inT w_s3 136 rfl rfl
theorem mw_715 : Cond.static yX6_behind ∈ w_all := w_inT w_s3 138 rfl rfl
theorem mw_716 : Cond.code yX6_behind cX6_behind 2 (some .int) ∈ w_all := w_inT w_s3 139 rfl rfl
theorem mw_717 : Cond.methodLink RX2 47 yX2_countTick ∈ w_all := w_inT w_s3 140 rfl rfl
theorem mw_719 : Cond.instanceMethod yX2_countTick ∈ w_all := w_inT w_s3 142 rfl rfl
theorem mw_720 : Cond.code yX2_countTick cX2_countTick 2 none ∈ w_all := w_inT w_s3 143 rfl rfl
theorem mw_725 : Cond.methodLink RX6 111 yX2_choose ∈ w_all := w_inT w_s3 148 rfl rfl
theorem mw_730 : Cond.methodLink RX6 118 yX0_hasCell ∈ w_all := w_inT w_s3 153 rfl rfl
theorem mw_731 : Cond.methodLink RX6 126 yX0_setLost ∈ w_all := w_inT w_s3 154 rfl rfl
theorem mw_736 : Cond.methodLink RX6 130 yX0_hasFlap ∈ w_all := w_inT w_s3 159 rfl rfl
theorem mw_737 : Cond.instanceMethod yX0_hasFlap ∈ w_all := w_inT w_s3 160 rfl rfl
theorem mw_738 : Cond.selects RX0 yX0_hasFlap yX0_hasFlap ∈ w_all := w_inT w_s3 161 rfl rfl
theorem mw_739 : Cond.code yX0_hasFlap cX0_hasFlap 3 (some .boolean) ∈ w_all := w_inT w_s3 162 rfl rfl
theorem mw_740 : Cond.methodLink RX6 134 yX0_isWorn ∈ w_all := w_inT w_s3 163 rfl rfl
theorem mw_742 : Cond.methodLink RX6 140 yX0_wornCount ∈ w_all := w_inT w_s3 165 rfl rfl
theorem mw_743 : Cond.instanceMethod yX0_wornCount ∈ w_all := w_inT w_s3 166 rfl rfl
theorem mw_744 : Cond.selects RX0 yX0_wornCount yX0_wornCount ∈ w_all := w_inT w_s3 167 rfl rfl
theorem mw_745 : Cond.code yX0_wornCount cX0_wornCount 2 (some .int) ∈ w_all := w_inT w_s3 168 rfl rfl
theorem mw_746 : Cond.methodLink RX0 146 yJ13_bitCount_95d88 ∈ w_all := w_inT w_s3 169 rfl rfl
theorem mw_747 : Cond.static yJ13_bitCount_95d88 ∈ w_all := w_inT w_s3 170 rfl rfl
theorem mw_748 : Cond.code yJ13_bitCount_95d88 cJ13_bitCount_95d88 2 (some .int) ∈ w_all := w_inT w_s3 171 rfl rfl
theorem mw_749 : Cond.constantLong RJ13 314 6148914691236517205 ∈ w_all := w_inT w_s3 172 rfl rfl
theorem mw_750 : Cond.constantLong RJ13 316 3689348814741910323 ∈ w_all := w_inT w_s3 173 rfl rfl
theorem mw_751 : Cond.constantLong RJ13 318 1085102592571150095 ∈ w_all := w_inT w_s3 174 rfl rfl
theorem mw_768 : Cond.methodLink RX6 149 yX0_isMovable ∈ w_all := w_inT w_s3 191 rfl rfl
theorem mw_769 : Cond.instanceMethod yX0_isMovable ∈ w_all := w_inT w_s3 192 rfl rfl
theorem mw_770 : Cond.selects RX0 yX0_isMovable yX0_isMovable ∈ w_all := w_inT w_s3 193 rfl rfl
theorem mw_771 : Cond.code yX0_isMovable cX0_isMovable 3 (some .boolean) ∈ w_all := w_inT w_s3 194 rfl rfl
theorem mw_772 : Cond.methodLink RX0 108 yX0_flapsOn ∈ w_all := w_inT w_s3 195 rfl rfl
theorem mw_773 : Cond.instanceMethod yX0_flapsOn ∈ w_all := w_inT w_s3 196 rfl rfl
theorem mw_774 : Cond.selects RX0 yX0_flapsOn yX0_flapsOn ∈ w_all := w_inT w_s3 197 rfl rfl
theorem mw_775 : Cond.code yX0_flapsOn cX0_flapsOn 2 (some .int) ∈ w_all := w_inT w_s3 198 rfl rfl
theorem mw_780 : Cond.methodLink RX0 123 yX0_isMovable ∈ w_all := w_inT w_s3 203 rfl rfl
theorem mw_785 : Cond.methodLink RX6 156 yX6_whyNotProgram ∈ w_all := w_inT w_s3 208 rfl rfl
theorem mw_787 : Cond.instanceMethod yX6_whyNotProgram ∈ w_all := w_inT w_s3 210 rfl rfl
theorem mw_788 : Cond.code yX6_whyNotProgram cX6_whyNotProgram 1 (some .int) ∈ w_all := w_inT w_s3 211 rfl rfl
theorem mw_789 : Cond.methodLink RX6 163 yX4_readFrom ∈ w_all := w_inT w_s3 212 rfl rfl
theorem mw_790 : Cond.instanceMethod yX4_readFrom ∈ w_all := w_inT w_s3 213 rfl rfl
theorem mw_791 : Cond.selects RX4 yX4_readFrom yX4_readFrom ∈ w_all := w_inT w_s3 214 rfl rfl
theorem mw_792 : Cond.code yX4_readFrom cX4_readFrom 6 none ∈ w_all := w_inT w_s3 215 rfl rfl
theorem mw_793 : Cond.methodLink RX4 57 yX5_startReading ∈ w_all := w_inT w_s3 216 rfl rfl
theorem mw_794 : Cond.methodLink RX4 62 yX5_takeWord ∈ w_all := w_inT w_s3 217 rfl rfl
theorem mw_795 : Cond.methodLink RX4 66 yX4_readStep ∈ w_all := w_inT w_s3 218 rfl rfl
theorem mw_797 : Cond.instanceMethod yX4_readStep ∈ w_all := w_inT w_s3 220 rfl rfl
theorem mw_798 : Cond.code yX4_readStep cX4_readStep 6 none ∈ w_all := w_inT w_s3 221 rfl rfl
theorem mw_799 : Cond.methodLink RX4 86 yX5_takeNumber ∈ w_all := w_inT w_s3 222 rfl rfl
theorem mw_800 : Cond.methodLink RX4 93 yX5_takeQuoted ∈ w_all := w_inT w_s3 223 rfl rfl
theorem mw_801 : Cond.methodLink RX4 100 yX0_cells ∈ w_all := w_inT w_s3 224 rfl rfl
theorem mw_802 : Cond.methodLink RX4 103 yX4_openTimes ∈ w_all := w_inT w_s3 225 rfl rfl
theorem mw_804 : Cond.instanceMethod yX4_openTimes ∈ w_all := w_inT w_s3 227 rfl rfl
theorem mw_805 : Cond.code yX4_openTimes cX4_openTimes 2 none ∈ w_all := w_inT w_s3 228 rfl rfl
theorem mw_806 : Cond.methodLink RX4 117 yX5_peek ∈ w_all := w_inT w_s3 229 rfl rfl
theorem mw_807 : Cond.methodLink RX4 110 yX5_blame ∈ w_all := w_inT w_s3 230 rfl rfl
theorem mw_808 : Cond.methodLink RX4 121 yX5_takeByte ∈ w_all := w_inT w_s3 231 rfl rfl
theorem mw_809 : Cond.methodLink RX4 70 yX5_isSound ∈ w_all := w_inT w_s3 232 rfl rfl
theorem mw_810 : Cond.methodLink RX4 113 yX4_addStep ∈ w_all := w_inT w_s3 233 rfl rfl
theorem mw_812 : Cond.instanceMethod yX4_addStep ∈ w_all := w_inT w_s3 235 rfl rfl
theorem mw_813 : Cond.code yX4_addStep cX4_addStep 5 none ∈ w_all := w_inT w_s3 236 rfl rfl
theorem mw_814 : Cond.methodLink RX4 74 yX4_goesOn ∈ w_all := w_inT w_s3 237 rfl rfl
theorem mw_816 : Cond.instanceMethod yX4_goesOn ∈ w_all := w_inT w_s3 239 rfl rfl
theorem mw_817 : Cond.code yX4_goesOn cX4_goesOn 4 (some .boolean) ∈ w_all := w_inT w_s4 0 rfl rfl
theorem mw_818 : Cond.methodLink RX4 125 yX4_closeTimes ∈ w_all := w_inT w_s4 1 rfl rfl
theorem mw_820 : Cond.instanceMethod yX4_closeTimes ∈ w_all := w_inT w_s4 3 rfl rfl
theorem mw_821 : Cond.code yX4_closeTimes cX4_closeTimes 2 none ∈ w_all := w_inT w_s4 4 rfl rfl
theorem mw_822 : Cond.methodLink RX4 37 yX4_hasStep ∈ w_all := w_inT w_s4 5 rfl rfl
theorem mw_823 : Cond.instanceMethod yX4_hasStep ∈ w_all := w_inT w_s4 6 rfl rfl
theorem mw_824 : Cond.selects RX4 yX4_hasStep yX4_hasStep ∈ w_all := w_inT w_s4 7 rfl rfl
theorem mw_825 : Cond.code yX4_hasStep cX4_hasStep 2 (some .boolean) ∈ w_all := w_inT w_s4 8 rfl rfl
theorem mw_830 : Cond.methodLink RX6 167 yX4_startDoing ∈ w_all := w_inT w_s4 13 rfl rfl
theorem mw_831 : Cond.instanceMethod yX4_startDoing ∈ w_all := w_inT w_s4 14 rfl rfl
theorem mw_832 : Cond.selects RX4 yX4_startDoing yX4_startDoing ∈ w_all := w_inT w_s4 15 rfl rfl
theorem mw_833 : Cond.code yX4_startDoing cX4_startDoing 1 none ∈ w_all := w_inT w_s4 16 rfl rfl
theorem mw_834 : Cond.methodLink RX6 173 yX4_hasStep ∈ w_all := w_inT w_s4 17 rfl rfl
theorem mw_835 : Cond.methodLink RX6 176 yX6_doStep ∈ w_all := w_inT w_s4 18 rfl rfl
theorem mw_837 : Cond.instanceMethod yX6_doStep ∈ w_all := w_inT w_s4 20 rfl rfl
theorem mw_838 : Cond.code yX6_doStep cX6_doStep 4 none ∈ w_all := w_inT w_s4 21 rfl rfl
theorem mw_839 : Cond.methodLink RX6 182 yX4_oneOf ∈ w_all := w_inT w_s4 22 rfl rfl
theorem mw_840 : Cond.instanceMethod yX4_oneOf ∈ w_all := w_inT w_s4 23 rfl rfl
theorem mw_841 : Cond.selects RX4 yX4_oneOf yX4_oneOf ∈ w_all := w_inT w_s4 24 rfl rfl
theorem mw_842 : Cond.code yX4_oneOf cX4_oneOf 2 (some .int) ∈ w_all := w_inT w_s4 25 rfl rfl
theorem mw_843 : Cond.methodLink RX6 185 yX4_twoOf ∈ w_all := w_inT w_s4 26 rfl rfl
theorem mw_844 : Cond.instanceMethod yX4_twoOf ∈ w_all := w_inT w_s4 27 rfl rfl
theorem mw_845 : Cond.selects RX4 yX4_twoOf yX4_twoOf ∈ w_all := w_inT w_s4 28 rfl rfl
theorem mw_846 : Cond.code yX4_twoOf cX4_twoOf 2 (some .int) ∈ w_all := w_inT w_s4 29 rfl rfl
theorem mw_847 : Cond.methodLink RX6 188 yX4_kindOf ∈ w_all := w_inT w_s4 30 rfl rfl
theorem mw_848 : Cond.instanceMethod yX4_kindOf ∈ w_all := w_inT w_s4 31 rfl rfl
theorem mw_849 : Cond.selects RX4 yX4_kindOf yX4_kindOf ∈ w_all := w_inT w_s4 32 rfl rfl
theorem mw_850 : Cond.code yX4_kindOf cX4_kindOf 2 (some .int) ∈ w_all := w_inT w_s4 33 rfl rfl
theorem mw_851 : Cond.methodLink RX6 191 yX4_quotedOf ∈ w_all := w_inT w_s4 34 rfl rfl
theorem mw_852 : Cond.instanceMethod yX4_quotedOf ∈ w_all := w_inT w_s4 35 rfl rfl
theorem mw_853 : Cond.selects RX4 yX4_quotedOf yX4_quotedOf ∈ w_all := w_inT w_s4 36 rfl rfl
theorem mw_854 : Cond.code yX4_quotedOf cX4_quotedOf 2 (some .int) ∈ w_all := w_inT w_s4 37 rfl rfl
theorem mw_855 : Cond.methodLink RX6 194 yX0_wantHome ∈ w_all := w_inT w_s4 38 rfl rfl
theorem mw_856 : Cond.instanceMethod yX0_wantHome ∈ w_all := w_inT w_s4 39 rfl rfl
theorem mw_857 : Cond.selects RX0 yX0_wantHome yX0_wantHome ∈ w_all := w_inT w_s4 40 rfl rfl
theorem mw_858 : Cond.code yX0_wantHome cX0_wantHome 3 none ∈ w_all := w_inT w_s4 41 rfl rfl
theorem mw_859 : Cond.methodLink RX6 179 yX4_goOn ∈ w_all := w_inT w_s4 42 rfl rfl
theorem mw_860 : Cond.instanceMethod yX4_goOn ∈ w_all := w_inT w_s4 43 rfl rfl
theorem mw_861 : Cond.selects RX4 yX4_goOn yX4_goOn ∈ w_all := w_inT w_s4 44 rfl rfl
theorem mw_862 : Cond.code yX4_goOn cX4_goOn 2 none ∈ w_all := w_inT w_s4 45 rfl rfl
theorem mw_863 : Cond.methodLink RX4 47 yX4_kindOf ∈ w_all := w_inT w_s4 46 rfl rfl
theorem mw_864 : Cond.methodLink RX4 51 yX4_oneOf ∈ w_all := w_inT w_s4 47 rfl rfl
theorem mw_865 : Cond.methodLink RX4 54 yX4_endOf ∈ w_all := w_inT w_s4 48 rfl rfl
theorem mw_866 : Cond.instanceMethod yX4_endOf ∈ w_all := w_inT w_s4 49 rfl rfl
theorem mw_867 : Cond.selects RX4 yX4_endOf yX4_endOf ∈ w_all := w_inT w_s4 50 rfl rfl
theorem mw_868 : Cond.code yX4_endOf cX4_endOf 2 (some .int) ∈ w_all := w_inT w_s4 51 rfl rfl
theorem mw_881 : Cond.methodLink RX6 201 yX6_isShelf ∈ w_all := w_inT w_s4 64 rfl rfl
theorem mw_882 : Cond.static yX6_isShelf ∈ w_all := w_inT w_s4 65 rfl rfl
theorem mw_883 : Cond.code yX6_isShelf cX6_isShelf 1 (some .boolean) ∈ w_all := w_inT w_s4 66 rfl rfl
theorem mw_885 : Cond.methodLink RX6 207 yX0_cells ∈ w_all := w_inT w_s4 68 rfl rfl
theorem mw_894 : Cond.methodLink RX6 222 yX0_leftOf ∈ w_all := w_inT w_s4 77 rfl rfl
theorem mw_899 : Cond.constantLong RX6 234 (-1) ∈ w_all := w_inT w_s4 82 rfl rfl
theorem mw_904 : Cond.methodLink RX6 236 yX0_hasDrum ∈ w_all := w_inT w_s4 87 rfl rfl
theorem mw_905 : Cond.instanceMethod yX0_hasDrum ∈ w_all := w_inT w_s4 88 rfl rfl
theorem mw_906 : Cond.selects RX0 yX0_hasDrum yX0_hasDrum ∈ w_all := w_inT w_s4 89 rfl rfl
theorem mw_907 : Cond.code yX0_hasDrum cX0_hasDrum 2 (some .boolean) ∈ w_all := w_inT w_s4 90 rfl rfl
theorem mw_908 : Cond.methodLink RX6 242 yX0_flapsOn ∈ w_all := w_inT w_s4 91 rfl rfl
theorem mw_909 : Cond.methodLink RX6 245 yX0_cellsWith ∈ w_all := w_inT w_s4 92 rfl rfl
theorem mw_910 : Cond.instanceMethod yX0_cellsWith ∈ w_all := w_inT w_s4 93 rfl rfl
theorem mw_911 : Cond.selects RX0 yX0_cellsWith yX0_cellsWith ∈ w_all := w_inT w_s4 94 rfl rfl
theorem mw_912 : Cond.code yX0_cellsWith cX0_cellsWith 4 (some .int) ∈ w_all := w_inT w_s4 95 rfl rfl
theorem mw_913 : Cond.methodLink RX6 248 yX0_unlikeSigns ∈ w_all := w_inT w_s4 96 rfl rfl
theorem mw_914 : Cond.instanceMethod yX0_unlikeSigns ∈ w_all := w_inT w_s4 97 rfl rfl
theorem mw_915 : Cond.selects RX0 yX0_unlikeSigns yX0_unlikeSigns ∈ w_all := w_inT w_s4 98 rfl rfl
theorem mw_916 : Cond.code yX0_unlikeSigns cX0_unlikeSigns 4 (some .int) ∈ w_all := w_inT w_s4 99 rfl rfl
theorem mw_917 : Cond.methodLink RX0 134 yX0_isLastOfSign ∈ w_all := w_inT w_s4 100 rfl rfl
theorem mw_918 : Cond.instanceMethod yX0_isLastOfSign ∈ w_all := w_inT w_s4 101 rfl rfl
theorem mw_919 : Cond.selects RX0 yX0_isLastOfSign yX0_isLastOfSign ∈ w_all := w_inT w_s4 102 rfl rfl
theorem mw_920 : Cond.code yX0_isLastOfSign cX0_isLastOfSign 3 (some .boolean) ∈ w_all := w_inT w_s4 103 rfl rfl
theorem mw_921 : Cond.methodLink RX0 127 yX0_flapsWith ∈ w_all := w_inT w_s4 104 rfl rfl
theorem mw_922 : Cond.instanceMethod yX0_flapsWith ∈ w_all := w_inT w_s4 105 rfl rfl
theorem mw_923 : Cond.selects RX0 yX0_flapsWith yX0_flapsWith ∈ w_all := w_inT w_s4 106 rfl rfl
theorem mw_924 : Cond.code yX0_flapsWith cX0_flapsWith 8 (some .int) ∈ w_all := w_inT w_s4 107 rfl rfl
theorem mw_925 : Cond.methodLink RX6 251 yX0_mostOfOneSign ∈ w_all := w_inT w_s4 108 rfl rfl
theorem mw_926 : Cond.instanceMethod yX0_mostOfOneSign ∈ w_all := w_inT w_s4 109 rfl rfl
theorem mw_927 : Cond.selects RX0 yX0_mostOfOneSign yX0_mostOfOneSign ∈ w_all := w_inT w_s4 110 rfl rfl
theorem mw_928 : Cond.code yX0_mostOfOneSign cX0_mostOfOneSign 4 (some .int) ∈ w_all := w_inT w_s4 111 rfl rfl
theorem mw_929 : Cond.methodLink RX0 143 Lib.Math.max.name ∈ w_all := w_inT w_s4 112 rfl rfl
theorem mw_934 : Cond.methodLink RX6 254 yX0_signOf ∈ w_all := w_inT w_s4 117 rfl rfl
theorem mw_939 : Cond.methodLink RX6 264 yX0_signOn ∈ w_all := w_inT w_s4 122 rfl rfl
theorem mw_944 : Cond.methodLink RX6 267 yX2_chosenBits ∈ w_all := w_inT w_s4 127 rfl rfl
theorem mw_945 : Cond.instanceMethod yX2_chosenBits ∈ w_all := w_inT w_s4 128 rfl rfl
theorem mw_946 : Cond.selects RX2 yX2_chosenBits yX2_chosenBits ∈ w_all := w_inT w_s4 129 rfl rfl
theorem mw_947 : Cond.code yX2_chosenBits cX2_chosenBits 4 (some .long) ∈ w_all := w_inT w_s4 130 rfl rfl
theorem mw_948 : Cond.methodLink RX6 271 yX6_isSuch ∈ w_all := w_inT w_s4 131 rfl rfl
theorem mw_950 : Cond.instanceMethod yX6_isSuch ∈ w_all := w_inT w_s4 133 rfl rfl
theorem mw_951 : Cond.code yX6_isSuch cX6_isSuch 3 (some .boolean) ∈ w_all := w_inT w_s4 134 rfl rfl
theorem mw_952 : Cond.methodLink RX6 274 yX0_showsWrong ∈ w_all := w_inT w_s4 135 rfl rfl
theorem mw_953 : Cond.instanceMethod yX0_showsWrong ∈ w_all := w_inT w_s4 136 rfl rfl
theorem mw_954 : Cond.selects RX0 yX0_showsWrong yX0_showsWrong ∈ w_all := w_inT w_s4 137 rfl rfl
theorem mw_955 : Cond.code yX0_showsWrong cX0_showsWrong 2 (some .boolean) ∈ w_all := w_inT w_s4 138 rfl rfl
theorem mw_956 : Cond.methodLink RX6 277 yX0_currentOf ∈ w_all := w_inT w_s4 139 rfl rfl
theorem mw_961 : Cond.methodLink RX6 280 yX0_leftOfAll ∈ w_all := w_inT w_s4 144 rfl rfl
theorem mw_962 : Cond.instanceMethod yX0_leftOfAll ∈ w_all := w_inT w_s4 145 rfl rfl
theorem mw_963 : Cond.selects RX0 yX0_leftOfAll yX0_leftOfAll ∈ w_all := w_inT w_s4 146 rfl rfl
theorem mw_964 : Cond.code yX0_leftOfAll cX0_leftOfAll 4 (some .int) ∈ w_all := w_inT w_s4 147 rfl rfl
theorem mw_965 : Cond.methodLink RX0 177 yX0_leftOf ∈ w_all := w_inT w_s4 148 rfl rfl
theorem mw_966 : Cond.methodLink RX0 180 yX0_currentOf ∈ w_all := w_inT w_s4 149 rfl rfl
theorem mw_967 : Cond.methodLink RX6 284 yX0_mostLeft ∈ w_all := w_inT w_s4 150 rfl rfl
theorem mw_968 : Cond.instanceMethod yX0_mostLeft ∈ w_all := w_inT w_s4 151 rfl rfl
theorem mw_969 : Cond.selects RX0 yX0_mostLeft yX0_mostLeft ∈ w_all := w_inT w_s4 152 rfl rfl
theorem mw_970 : Cond.code yX0_mostLeft cX0_mostLeft 3 (some .int) ∈ w_all := w_inT w_s4 153 rfl rfl
theorem mw_971 : Cond.methodLink RX6 287 yX6_leastTicks ∈ w_all := w_inT w_s4 154 rfl rfl
theorem mw_973 : Cond.instanceMethod yX6_leastTicks ∈ w_all := w_inT w_s4 156 rfl rfl
theorem mw_974 : Cond.code yX6_leastTicks cX6_leastTicks 3 (some .int) ∈ w_all := w_inT w_s4 157 rfl rfl
theorem mw_975 : Cond.methodLink RX6 290 Lib.Math.max.name ∈ w_all := w_inT w_s4 158 rfl rfl
theorem mw_980 : Cond.methodLink RX6 295 yX6_tryToSettle ∈ w_all := w_inT w_s4 163 rfl rfl
theorem mw_982 : Cond.instanceMethod yX6_tryToSettle ∈ w_all := w_inT w_s4 165 rfl rfl
theorem mw_983 : Cond.code yX6_tryToSettle cX6_tryToSettle 1 none ∈ w_all := w_inT w_s4 166 rfl rfl
theorem mw_984 : Cond.methodLink RX6 304 yX0_wrongCount ∈ w_all := w_inT w_s4 167 rfl rfl
theorem mw_985 : Cond.instanceMethod yX0_wrongCount ∈ w_all := w_inT w_s4 168 rfl rfl
theorem mw_986 : Cond.selects RX0 yX0_wrongCount yX0_wrongCount ∈ w_all := w_inT w_s4 169 rfl rfl
theorem mw_987 : Cond.code yX0_wrongCount cX0_wrongCount 3 (some .int) ∈ w_all := w_inT w_s4 170 rfl rfl
theorem mw_988 : Cond.methodLink RX0 120 yX0_showsWrong ∈ w_all := w_inT w_s4 171 rfl rfl
theorem mw_997 : Cond.methodLink RX6 318 yX0_sumOf ∈ w_all := w_inT w_s4 180 rfl rfl
theorem mw_998 : Cond.instanceMethod yX0_sumOf ∈ w_all := w_inT w_s4 181 rfl rfl
theorem mw_999 : Cond.selects RX0 yX0_sumOf yX0_sumOf ∈ w_all := w_inT w_s4 182 rfl rfl
theorem mw_1000 : Cond.code yX0_sumOf cX0_sumOf 4 (some .int) ∈ w_all := w_inT w_s4 183 rfl rfl
theorem mw_1009 : Cond.methodLink RX6 322 yX0_costOf ∈ w_all := w_inT w_s4 192 rfl rfl
theorem mw_1010 : Cond.instanceMethod yX0_costOf ∈ w_all := w_inT w_s4 193 rfl rfl
theorem mw_1011 : Cond.selects RX0 yX0_costOf yX0_costOf ∈ w_all := w_inT w_s4 194 rfl rfl
theorem mw_1012 : Cond.code yX0_costOf cX0_costOf 10 (some .int) ∈ w_all := w_inT w_s4 195 rfl rfl
theorem mw_1013 : Cond.methodLink RX0 161 yX0_flapsOnTo ∈ w_all := w_inT w_s4 196 rfl rfl
theorem mw_1014 : Cond.instanceMethod yX0_flapsOnTo ∈ w_all := w_inT w_s4 197 rfl rfl
theorem mw_1015 : Cond.selects RX0 yX0_flapsOnTo yX0_flapsOnTo ∈ w_all := w_inT w_s4 198 rfl rfl
theorem mw_1016 : Cond.code yX0_flapsOnTo cX0_flapsOnTo 3 (some .int) ∈ w_all := w_inT w_s4 199 rfl rfl
theorem mw_1018 : Cond.static yX6_onFrom ∈ w_all := w_inT w_s4 201 rfl rfl
theorem mw_1019 : Cond.code yX6_onFrom cX6_onFrom 3 (some .int) ∈ w_all := w_inT w_s4 202 rfl rfl
theorem mw_1024 : Cond.methodLink RX6 332 yX0_missesOf ∈ w_all := w_inT w_s4 207 rfl rfl
theorem mw_1025 : Cond.instanceMethod yX0_missesOf ∈ w_all := w_inT w_s4 208 rfl rfl
theorem mw_1026 : Cond.selects RX0 yX0_missesOf yX0_missesOf ∈ w_all := w_inT w_s4 209 rfl rfl
theorem mw_1027 : Cond.code yX0_missesOf cX0_missesOf 8 (some .int) ∈ w_all := w_inT w_s4 210 rfl rfl
theorem mw_1036 : Cond.methodLink RX6 338 yX0_journey ∈ w_all := w_inT w_s4 219 rfl rfl
theorem mw_1037 : Cond.instanceMethod yX0_journey ∈ w_all := w_inT w_s4 220 rfl rfl
theorem mw_1038 : Cond.selects RX0 yX0_journey yX0_journey ∈ w_all := w_inT w_s4 221 rfl rfl
theorem mw_1039 : Cond.code yX0_journey cX0_journey 7 (some .int) ∈ w_all := w_inT w_s4 222 rfl rfl
theorem mw_1040 : Cond.methodLink RX0 189 yX0_entryAt ∈ w_all := w_inT w_s4 223 rfl rfl
theorem mw_1042 : Cond.instanceMethod yX0_entryAt ∈ w_all := w_inT w_s4 225 rfl rfl
theorem mw_1043 : Cond.code yX0_entryAt cX0_entryAt 6 (some .int) ∈ w_all := w_inT w_s4 226 rfl rfl
theorem mw_1044 : Cond.methodLink RX6 341 yX0_logSize ∈ w_all := w_inT w_s4 227 rfl rfl
theorem mw_1045 : Cond.instanceMethod yX0_logSize ∈ w_all := w_inT w_s4 228 rfl rfl
theorem mw_1046 : Cond.selects RX0 yX0_logSize yX0_logSize ∈ w_all := w_inT w_s4 229 rfl rfl
theorem mw_1047 : Cond.code yX0_logSize cX0_logSize 4 (some .int) ∈ w_all := w_inT w_s4 230 rfl rfl
theorem mw_1048 : Cond.methodLink RX0 193 yX0_entriesOf ∈ w_all := w_inT w_s4 231 rfl rfl
theorem mw_1049 : Cond.instanceMethod yX0_entriesOf ∈ w_all := w_inT w_s4 232 rfl rfl
theorem mw_1050 : Cond.selects RX0 yX0_entriesOf yX0_entriesOf ∈ w_all := w_inT w_s4 233 rfl rfl
theorem mw_1051 : Cond.code yX0_entriesOf cX0_entriesOf 8 (some .int) ∈ w_all := w_inT w_s4 234 rfl rfl
theorem mw_1052 : Cond.methodLink RX6 344 yX0_unlikeEntries ∈ w_all := w_inT w_s4 235 rfl rfl
theorem mw_1053 : Cond.instanceMethod yX0_unlikeEntries ∈ w_all := w_inT w_s4 236 rfl rfl
theorem mw_1054 : Cond.selects RX0 yX0_unlikeEntries yX0_unlikeEntries ∈ w_all := w_inT w_s4 237 rfl rfl
theorem mw_1055 : Cond.code yX0_unlikeEntries cX0_unlikeEntries 7 (some .int) ∈ w_all := w_inT w_s4 238 rfl rfl
theorem mw_1060 : Cond.methodLink RX6 347 yX0_entriesOf ∈ w_all := w_inT w_s5 3 rfl rfl
theorem mw_1069 : Cond.methodLink RX6 351 yX0_journeyChange ∈ w_all := w_inT w_s5 12 rfl rfl
theorem mw_1070 : Cond.instanceMethod yX0_journeyChange ∈ w_all := w_inT w_s5 13 rfl rfl
theorem mw_1071 : Cond.selects RX0 yX0_journeyChange yX0_journeyChange ∈ w_all := w_inT w_s5 14 rfl rfl
theorem mw_1072 : Cond.code yX0_journeyChange cX0_journeyChange 11 (some .int) ∈ w_all := w_inT w_s5 15 rfl rfl
theorem mw_1077 : Cond.methodLink RX6 355 yX0_flapsOf ∈ w_all := w_inT w_s5 20 rfl rfl
theorem mw_1078 : Cond.methodLink RX6 358 yX0_flapsOnTo ∈ w_all := w_inT w_s5 21 rfl rfl
theorem mw_1079 : Cond.methodLink RX6 361 yX0_nearest ∈ w_all := w_inT w_s5 22 rfl rfl
theorem mw_1084 : Cond.methodLink RX6 364 yX0_missedOfOwn ∈ w_all := w_inT w_s5 27 rfl rfl
theorem mw_1085 : Cond.instanceMethod yX0_missedOfOwn ∈ w_all := w_inT w_s5 28 rfl rfl
theorem mw_1086 : Cond.selects RX0 yX0_missedOfOwn yX0_missedOfOwn ∈ w_all := w_inT w_s5 29 rfl rfl
theorem mw_1087 : Cond.code yX0_missedOfOwn cX0_missedOfOwn 5 (some .int) ∈ w_all := w_inT w_s5 30 rfl rfl
theorem mw_1088 : Cond.methodLink RX6 367 yX0_signsOfOthers ∈ w_all := w_inT w_s5 31 rfl rfl
theorem mw_1089 : Cond.instanceMethod yX0_signsOfOthers ∈ w_all := w_inT w_s5 32 rfl rfl
theorem mw_1090 : Cond.selects RX0 yX0_signsOfOthers yX0_signsOfOthers ∈ w_all := w_inT w_s5 33 rfl rfl
theorem mw_1091 : Cond.code yX0_signsOfOthers cX0_signsOfOthers 4 (some .int) ∈ w_all := w_inT w_s5 34 rfl rfl
theorem mw_1092 : Cond.methodLink RX0 140 yX0_someDrumHas ∈ w_all := w_inT w_s5 35 rfl rfl
theorem mw_1093 : Cond.instanceMethod yX0_someDrumHas ∈ w_all := w_inT w_s5 36 rfl rfl
theorem mw_1094 : Cond.selects RX0 yX0_someDrumHas yX0_someDrumHas ∈ w_all := w_inT w_s5 37 rfl rfl
theorem mw_1095 : Cond.code yX0_someDrumHas cX0_someDrumHas 3 (some .boolean) ∈ w_all := w_inT w_s5 38 rfl rfl
theorem mw_1096 : Cond.methodLink RX0 131 yX0_drumHas ∈ w_all := w_inT w_s5 39 rfl rfl
theorem mw_1097 : Cond.instanceMethod yX0_drumHas ∈ w_all := w_inT w_s5 40 rfl rfl
theorem mw_1098 : Cond.selects RX0 yX0_drumHas yX0_drumHas ∈ w_all := w_inT w_s5 41 rfl rfl
theorem mw_1099 : Cond.code yX0_drumHas cX0_drumHas 3 (some .boolean) ∈ w_all := w_inT w_s5 42 rfl rfl
theorem mw_1104 : Cond.methodLink RX6 370 yX0_wantedSign ∈ w_all := w_inT w_s5 47 rfl rfl
theorem mw_1113 : Cond.constantLong RX6 373 17 ∈ w_all := w_inT w_s5 56 rfl rfl
theorem mw_1114 : Cond.constantLong RX6 375 31 ∈ w_all := w_inT w_s5 57 rfl rfl
theorem mw_1129 : Cond.constant RX7 13 68960 ∈ w_all := w_inT w_s5 72 rfl rfl
theorem mw_1130 : Cond.fieldLink RX7 7 "FlapBoardModel" "now" "[J" ∈ w_all := w_inT w_s5 73 rfl rfl
theorem mw_1131 : Cond.fieldLink RX7 14 "FlapBoardModel" "was" "[J" ∈ w_all := w_inT w_s5 74 rfl rfl
theorem mw_1132 : Cond.fieldLink RX7 124 "FlapBoardModel" "undone" "I" ∈ w_all := w_inT w_s5 75 rfl rfl
theorem mw_1133 : Cond.fieldLink RX7 17 "FlapBoardModel" "kept" "[J" ∈ w_all := w_inT w_s5 76 rfl rfl
theorem mw_1134 : Cond.fieldLink RX7 20 "FlapBoardModel" "isKept" "[Z" ∈ w_all := w_inT w_s5 77 rfl rfl
theorem mw_1135 : Cond.fieldLink RX7 24 "FlapBoardModel" "aside" "[J" ∈ w_all := w_inT w_s5 78 rfl rfl
theorem mw_1136 : Cond.fieldLink RX7 82 "FlapBoardModel" "turning" "J" ∈ w_all := w_inT w_s5 79 rfl rfl
theorem mw_1137 : Cond.fieldLink RX7 86 "FlapBoardModel" "turnMany" "I" ∈ w_all := w_inT w_s5 80 rfl rfl
theorem mw_1138 : Cond.fieldLink RX7 90 "FlapBoardModel" "turnCurrent" "I" ∈ w_all := w_inT w_s5 81 rfl rfl
theorem mw_1139 : Cond.fieldLink RX7 27 "FlapBoardModel" "wanted" "[I" ∈ w_all := w_inT w_s5 82 rfl rfl
theorem mw_1140 : Cond.fieldLink RX7 223 "FlapBoardModel" "costs" "I" ∈ w_all := w_inT w_s5 83 rfl rfl
theorem mw_1141 : Cond.fieldLink RX7 226 "FlapBoardModel" "misses" "I" ∈ w_all := w_inT w_s5 84 rfl rfl
theorem mw_1142 : Cond.fieldLink RX7 31 "FlapBoardModel" "tape" "[B" ∈ w_all := w_inT w_s5 85 rfl rfl
theorem mw_1143 : Cond.fieldLink RX7 135 "FlapBoardModel" "taped" "I" ∈ w_all := w_inT w_s5 86 rfl rfl
theorem mw_1144 : Cond.fieldLink RX7 254 "FlapBoardModel" "spot" "I" ∈ w_all := w_inT w_s5 87 rfl rfl
theorem mw_1145 : Cond.fieldLink RX7 260 "FlapBoardModel" "wrong" "I" ∈ w_all := w_inT w_s5 88 rfl rfl
theorem mw_1146 : Cond.fieldLink RX7 299 "FlapBoardModel" "number" "I" ∈ w_all := w_inT w_s5 89 rfl rfl
theorem mw_1147 : Cond.fieldLink RX7 296 "FlapBoardModel" "numberAt" "I" ∈ w_all := w_inT w_s5 90 rfl rfl
theorem mw_1148 : Cond.fieldLink RX7 305 "FlapBoardModel" "quoted" "I" ∈ w_all := w_inT w_s5 91 rfl rfl
theorem mw_1149 : Cond.fieldLink RX7 308 "FlapBoardModel" "quotedMany" "I" ∈ w_all := w_inT w_s5 92 rfl rfl
theorem mw_1150 : Cond.fieldLink RX7 317 "FlapBoardModel" "loseCell" "I" ∈ w_all := w_inT w_s5 93 rfl rfl
theorem mw_1151 : Cond.fieldLink RX7 357 "FlapBoardModel" "done" "I" ∈ w_all := w_inT w_s5 94 rfl rfl
theorem mw_1152 : Cond.fieldLink RX7 364 "FlapBoardModel" "deep" "I" ∈ w_all := w_inT w_s5 95 rfl rfl
theorem mw_1205 : Cond.methodLink RX7 138 yX7_isRow ∈ w_all := w_inT w_s5 148 rfl rfl
theorem mw_1207 : Cond.instanceMethod yX7_isRow ∈ w_all := w_inT w_s5 150 rfl rfl
theorem mw_1208 : Cond.code yX7_isRow cX7_isRow 2 (some .boolean) ∈ w_all := w_inT w_s5 151 rfl rfl
theorem mw_1209 : Cond.methodLink RX7 43 yX7_rows ∈ w_all := w_inT w_s5 152 rfl rfl
theorem mw_1211 : Cond.instanceMethod yX7_rows ∈ w_all := w_inT w_s5 154 rfl rfl
theorem mw_1212 : Cond.code yX7_rows cX7_rows 1 (some .int) ∈ w_all := w_inT w_s5 155 rfl rfl
theorem mw_1213 : Cond.methodLink RX7 39 yX7_in ∈ w_all := w_inT w_s5 156 rfl rfl
theorem mw_1214 : Cond.static yX7_in ∈ w_all := w_inT w_s5 157 rfl rfl
theorem mw_1215 : Cond.code yX7_in cX7_in 6 (some .boolean) ∈ w_all := w_inT w_s5 158 rfl rfl
theorem mw_1216 : Cond.methodLink RX7 141 yX7_isRowText ∈ w_all := w_inT w_s5 159 rfl rfl
theorem mw_1218 : Cond.instanceMethod yX7_isRowText ∈ w_all := w_inT w_s5 161 rfl rfl
theorem mw_1219 : Cond.code yX7_isRowText cX7_isRowText 2 (some .boolean) ∈ w_all := w_inT w_s5 162 rfl rfl
theorem mw_1220 : Cond.methodLink RX7 47 yX7_wide ∈ w_all := w_inT w_s5 163 rfl rfl
theorem mw_1222 : Cond.instanceMethod yX7_wide ∈ w_all := w_inT w_s5 165 rfl rfl
theorem mw_1223 : Cond.code yX7_wide cX7_wide 1 (some .int) ∈ w_all := w_inT w_s5 166 rfl rfl
theorem mw_1224 : Cond.methodLink RX7 131 yX7_areSigns ∈ w_all := w_inT w_s5 167 rfl rfl
theorem mw_1226 : Cond.instanceMethod yX7_areSigns ∈ w_all := w_inT w_s5 169 rfl rfl
theorem mw_1227 : Cond.code yX7_areSigns cX7_areSigns 4 (some .boolean) ∈ w_all := w_inT w_s5 170 rfl rfl
theorem mw_1228 : Cond.methodLink RX7 127 yX7_isSign ∈ w_all := w_inT w_s5 171 rfl rfl
theorem mw_1229 : Cond.static yX7_isSign ∈ w_all := w_inT w_s5 172 rfl rfl
theorem mw_1230 : Cond.code yX7_isSign cX7_isSign 1 (some .boolean) ∈ w_all := w_inT w_s5 173 rfl rfl
theorem mw_1231 : Cond.constantLong RX7 35 32 ∈ w_all := w_inT w_s5 174 rfl rfl
theorem mw_1232 : Cond.constantLong RX7 37 126 ∈ w_all := w_inT w_s5 175 rfl rfl
theorem mw_1233 : Cond.methodLink RX7 144 yX7_keepsAct ∈ w_all := w_inT w_s5 176 rfl rfl
theorem mw_1235 : Cond.instanceMethod yX7_keepsAct ∈ w_all := w_inT w_s5 178 rfl rfl
theorem mw_1236 : Cond.code yX7_keepsAct cX7_keepsAct 2 none ∈ w_all := w_inT w_s5 179 rfl rfl
theorem mw_1237 : Cond.methodLink RX7 120 yX7_wantsSigns ∈ w_all := w_inT w_s5 180 rfl rfl
theorem mw_1239 : Cond.instanceMethod yX7_wantsSigns ∈ w_all := w_inT w_s5 182 rfl rfl
theorem mw_1240 : Cond.code yX7_wantsSigns cX7_wantsSigns 9 (some .int) ∈ w_all := w_inT w_s5 183 rfl rfl
theorem mw_1241 : Cond.methodLink RX7 113 yX7_flapFor ∈ w_all := w_inT w_s5 184 rfl rfl
theorem mw_1243 : Cond.instanceMethod yX7_flapFor ∈ w_all := w_inT w_s5 186 rfl rfl
theorem mw_1244 : Cond.code yX7_flapFor cX7_flapFor 5 (some .int) ∈ w_all := w_inT w_s5 187 rfl rfl
theorem mw_1245 : Cond.methodLink RX7 67 yX7_flaps ∈ w_all := w_inT w_s5 188 rfl rfl
theorem mw_1247 : Cond.instanceMethod yX7_flaps ∈ w_all := w_inT w_s5 190 rfl rfl
theorem mw_1248 : Cond.code yX7_flaps cX7_flaps 2 (some .int) ∈ w_all := w_inT w_s5 191 rfl rfl
theorem mw_1249 : Cond.methodLink RX7 56 yX7_of ∈ w_all := w_inT w_s5 192 rfl rfl
theorem mw_1251 : Cond.instanceMethod yX7_of ∈ w_all := w_inT w_s5 194 rfl rfl
theorem mw_1252 : Cond.code yX7_of cX7_of 3 (some .int) ∈ w_all := w_inT w_s5 195 rfl rfl
theorem mw_1253 : Cond.methodLink RX7 60 yX7_flapsOf ∈ w_all := w_inT w_s5 196 rfl rfl
theorem mw_1255 : Cond.instanceMethod yX7_flapsOf ∈ w_all := w_inT w_s5 198 rfl rfl
theorem mw_1256 : Cond.code yX7_flapsOf cX7_flapsOf 2 (some .int) ∈ w_all := w_inT w_s5 199 rfl rfl
theorem mw_1257 : Cond.methodLink RX7 106 yX7_signOf ∈ w_all := w_inT w_s5 200 rfl rfl
theorem mw_1259 : Cond.instanceMethod yX7_signOf ∈ w_all := w_inT w_s5 202 rfl rfl
theorem mw_1260 : Cond.code yX7_signOf cX7_signOf 3 (some .int) ∈ w_all := w_inT w_s5 203 rfl rfl
theorem mw_1261 : Cond.methodLink RX7 109 yX7_wornOf ∈ w_all := w_inT w_s5 204 rfl rfl
theorem mw_1263 : Cond.instanceMethod yX7_wornOf ∈ w_all := w_inT w_s5 206 rfl rfl
theorem mw_1264 : Cond.code yX7_wornOf cX7_wornOf 2 (some .long) ∈ w_all := w_inT w_s5 207 rfl rfl
theorem mw_1265 : Cond.methodLink RX7 74 yX7_isIn ∈ w_all := w_inT w_s5 208 rfl rfl
theorem mw_1266 : Cond.static yX7_isIn ∈ w_all := w_inT w_s5 209 rfl rfl
theorem mw_1267 : Cond.code yX7_isIn cX7_isIn 3 (some .boolean) ∈ w_all := w_inT w_s5 210 rfl rfl
theorem mw_1268 : Cond.methodLink RX7 70 yX7_on ∈ w_all := w_inT w_s5 211 rfl rfl
theorem mw_1269 : Cond.static yX7_on ∈ w_all := w_inT w_s5 212 rfl rfl
theorem mw_1270 : Cond.code yX7_on cX7_on 3 (some .int) ∈ w_all := w_inT w_s5 213 rfl rfl
theorem mw_1271 : Cond.methodLink RX7 116 yX7_wantsFlap ∈ w_all := w_inT w_s5 214 rfl rfl
theorem mw_1273 : Cond.instanceMethod yX7_wantsFlap ∈ w_all := w_inT w_s5 216 rfl rfl
theorem mw_1274 : Cond.code yX7_wantsFlap cX7_wantsFlap 4 none ∈ w_all := w_inT w_s5 217 rfl rfl
theorem mw_1275 : Cond.methodLink RX7 78 yX7_sets ∈ w_all := w_inT w_s5 218 rfl rfl
theorem mw_1277 : Cond.instanceMethod yX7_sets ∈ w_all := w_inT w_s5 220 rfl rfl
theorem mw_1278 : Cond.code yX7_sets cX7_sets 5 none ∈ w_all := w_inT w_s5 221 rfl rfl
theorem mw_1283 : Cond.methodLink RX7 147 yX7_isBoard ∈ w_all := w_inT w_s5 226 rfl rfl
theorem mw_1285 : Cond.instanceMethod yX7_isBoard ∈ w_all := w_inT w_s5 228 rfl rfl
theorem mw_1286 : Cond.code yX7_isBoard cX7_isBoard 1 (some .boolean) ∈ w_all := w_inT w_s5 229 rfl rfl
theorem mw_1287 : Cond.methodLink RX7 50 yX7_drums ∈ w_all := w_inT w_s5 230 rfl rfl
theorem mw_1289 : Cond.instanceMethod yX7_drums ∈ w_all := w_inT w_s5 232 rfl rfl
theorem mw_1290 : Cond.code yX7_drums cX7_drums 1 (some .int) ∈ w_all := w_inT w_s5 233 rfl rfl
theorem mw_1291 : Cond.methodLink RX7 151 yX7_scrolls ∈ w_all := w_inT w_s5 234 rfl rfl
theorem mw_1293 : Cond.instanceMethod yX7_scrolls ∈ w_all := w_inT w_s5 236 rfl rfl
theorem mw_1294 : Cond.code yX7_scrolls cX7_scrolls 6 (some .int) ∈ w_all := w_inT w_s5 237 rfl rfl
theorem mw_1295 : Cond.methodLink RX7 53 yX7_cells ∈ w_all := w_inT w_s5 238 rfl rfl
theorem mw_1297 : Cond.instanceMethod yX7_cells ∈ w_all := w_inT w_s6 0 rfl rfl
theorem mw_1298 : Cond.code yX7_cells cX7_cells 1 (some .int) ∈ w_all := w_inT w_s6 1 rfl rfl
theorem mw_1303 : Cond.constantLong RX7 154 99 ∈ w_all := w_inT w_s6 6 rfl rfl
theorem mw_1304 : Cond.methodLink RX7 156 yX7_ticks ∈ w_all := w_inT w_s6 7 rfl rfl
theorem mw_1306 : Cond.instanceMethod yX7_ticks ∈ w_all := w_inT w_s6 9 rfl rfl
theorem mw_1307 : Cond.code yX7_ticks cX7_ticks 2 (some .int) ∈ w_all := w_inT w_s6 10 rfl rfl
theorem mw_1308 : Cond.methodLink RX7 99 yX7_findsTurning ∈ w_all := w_inT w_s6 11 rfl rfl
theorem mw_1310 : Cond.instanceMethod yX7_findsTurning ∈ w_all := w_inT w_s6 13 rfl rfl
theorem mw_1311 : Cond.code yX7_findsTurning cX7_findsTurning 6 none ∈ w_all := w_inT w_s6 14 rfl rfl
theorem mw_1312 : Cond.methodLink RX7 93 yX7_leftOf ∈ w_all := w_inT w_s6 15 rfl rfl
theorem mw_1314 : Cond.instanceMethod yX7_leftOf ∈ w_all := w_inT w_s6 17 rfl rfl
theorem mw_1315 : Cond.code yX7_leftOf cX7_leftOf 2 (some .int) ∈ w_all := w_inT w_s6 18 rfl rfl
theorem mw_1316 : Cond.methodLink RX7 96 yX7_current ∈ w_all := w_inT w_s6 19 rfl rfl
theorem mw_1318 : Cond.instanceMethod yX7_current ∈ w_all := w_inT w_s6 21 rfl rfl
theorem mw_1319 : Cond.code yX7_current cX7_current 2 (some .int) ∈ w_all := w_inT w_s6 22 rfl rfl
theorem mw_1320 : Cond.methodLink RX7 64 yX7_currentOf ∈ w_all := w_inT w_s6 23 rfl rfl
theorem mw_1322 : Cond.instanceMethod yX7_currentOf ∈ w_all := w_inT w_s6 25 rfl rfl
theorem mw_1323 : Cond.code yX7_currentOf cX7_currentOf 2 (some .int) ∈ w_all := w_inT w_s6 26 rfl rfl
theorem mw_1324 : Cond.methodLink RX7 102 yX7_steps ∈ w_all := w_inT w_s6 27 rfl rfl
theorem mw_1326 : Cond.instanceMethod yX7_steps ∈ w_all := w_inT w_s6 29 rfl rfl
theorem mw_1327 : Cond.code yX7_steps cX7_steps 3 none ∈ w_all := w_inT w_s6 30 rfl rfl
theorem mw_1332 : Cond.methodLink RX7 159 yX7_settles ∈ w_all := w_inT w_s6 35 rfl rfl
theorem mw_1334 : Cond.instanceMethod yX7_settles ∈ w_all := w_inT w_s6 37 rfl rfl
theorem mw_1335 : Cond.code yX7_settles cX7_settles 2 (some .int) ∈ w_all := w_inT w_s6 38 rfl rfl
theorem mw_1340 : Cond.methodLink RX7 162 yX7_isCell ∈ w_all := w_inT w_s6 43 rfl rfl
theorem mw_1342 : Cond.instanceMethod yX7_isCell ∈ w_all := w_inT w_s6 45 rfl rfl
theorem mw_1343 : Cond.code yX7_isCell cX7_isCell 2 (some .boolean) ∈ w_all := w_inT w_s6 46 rfl rfl
theorem mw_1344 : Cond.constantLong RX7 165 9 ∈ w_all := w_inT w_s6 47 rfl rfl
theorem mw_1349 : Cond.methodLink RX7 167 yX7_isFlap ∈ w_all := w_inT w_s6 52 rfl rfl
theorem mw_1351 : Cond.instanceMethod yX7_isFlap ∈ w_all := w_inT w_s6 54 rfl rfl
theorem mw_1352 : Cond.code yX7_isFlap cX7_isFlap 3 (some .boolean) ∈ w_all := w_inT w_s6 55 rfl rfl
theorem mw_1353 : Cond.methodLink RX7 170 yX7_wears ∈ w_all := w_inT w_s6 56 rfl rfl
theorem mw_1355 : Cond.instanceMethod yX7_wears ∈ w_all := w_inT w_s6 58 rfl rfl
theorem mw_1356 : Cond.code yX7_wears cX7_wears 3 none ∈ w_all := w_inT w_s6 59 rfl rfl
theorem mw_1357 : Cond.methodLink RX7 174 yX7_bits ∈ w_all := w_inT w_s6 60 rfl rfl
theorem mw_1358 : Cond.static yX7_bits ∈ w_all := w_inT w_s6 61 rfl rfl
theorem mw_1359 : Cond.code yX7_bits cX7_bits 4 (some .int) ∈ w_all := w_inT w_s6 62 rfl rfl
theorem mw_1364 : Cond.constantLong RX7 178 (-1) ∈ w_all := w_inT w_s6 67 rfl rfl
theorem mw_1373 : Cond.methodLink RX7 180 yX7_isDrum ∈ w_all := w_inT w_s6 76 rfl rfl
theorem mw_1375 : Cond.instanceMethod yX7_isDrum ∈ w_all := w_inT w_s6 78 rfl rfl
theorem mw_1376 : Cond.code yX7_isDrum cX7_isDrum 2 (some .boolean) ∈ w_all := w_inT w_s6 79 rfl rfl
theorem mw_1401 : Cond.methodLink RX7 186 yX7_cellsWith ∈ w_all := w_inT w_s6 104 rfl rfl
theorem mw_1403 : Cond.instanceMethod yX7_cellsWith ∈ w_all := w_inT w_s6 106 rfl rfl
theorem mw_1404 : Cond.code yX7_cellsWith cX7_cellsWith 4 (some .int) ∈ w_all := w_inT w_s6 107 rfl rfl
theorem mw_1405 : Cond.methodLink RX7 189 yX7_signsOf ∈ w_all := w_inT w_s6 108 rfl rfl
theorem mw_1407 : Cond.instanceMethod yX7_signsOf ∈ w_all := w_inT w_s6 110 rfl rfl
theorem mw_1408 : Cond.code yX7_signsOf cX7_signsOf 6 (some .int) ∈ w_all := w_inT w_s6 111 rfl rfl
theorem mw_1409 : Cond.methodLink RX7 183 yX7_manyWith ∈ w_all := w_inT w_s6 112 rfl rfl
theorem mw_1411 : Cond.instanceMethod yX7_manyWith ∈ w_all := w_inT w_s6 114 rfl rfl
theorem mw_1412 : Cond.code yX7_manyWith cX7_manyWith 5 (some .int) ∈ w_all := w_inT w_s6 115 rfl rfl
theorem mw_1421 : Cond.constantLong RX7 193 2 ∈ w_all := w_inT w_s6 124 rfl rfl
theorem mw_1422 : Cond.methodLink RX7 195 yX7_signAt ∈ w_all := w_inT w_s6 125 rfl rfl
theorem mw_1424 : Cond.instanceMethod yX7_signAt ∈ w_all := w_inT w_s6 127 rfl rfl
theorem mw_1425 : Cond.code yX7_signAt cX7_signAt 3 (some .int) ∈ w_all := w_inT w_s6 128 rfl rfl
theorem mw_1430 : Cond.constantLong RX7 201 4 ∈ w_all := w_inT w_s6 133 rfl rfl
theorem mw_1431 : Cond.methodLink RX7 203 yX7_isSuch ∈ w_all := w_inT w_s6 134 rfl rfl
theorem mw_1433 : Cond.instanceMethod yX7_isSuch ∈ w_all := w_inT w_s6 136 rfl rfl
theorem mw_1434 : Cond.code yX7_isSuch cX7_isSuch 3 (some .boolean) ∈ w_all := w_inT w_s6 137 rfl rfl
theorem mw_1435 : Cond.methodLink RX7 198 yX7_isOther ∈ w_all := w_inT w_s6 138 rfl rfl
theorem mw_1437 : Cond.instanceMethod yX7_isOther ∈ w_all := w_inT w_s6 140 rfl rfl
theorem mw_1438 : Cond.code yX7_isOther cX7_isOther 2 (some .boolean) ∈ w_all := w_inT w_s6 141 rfl rfl
theorem mw_1443 : Cond.constantLong RX7 206 3 ∈ w_all := w_inT w_s6 146 rfl rfl
theorem mw_1448 : Cond.constantLong RX7 208 5 ∈ w_all := w_inT w_s6 151 rfl rfl
theorem mw_1449 : Cond.methodLink RX7 210 yX7_putsAside ∈ w_all := w_inT w_s6 152 rfl rfl
theorem mw_1451 : Cond.instanceMethod yX7_putsAside ∈ w_all := w_inT w_s6 154 rfl rfl
theorem mw_1452 : Cond.code yX7_putsAside cX7_putsAside 2 none ∈ w_all := w_inT w_s6 155 rfl rfl
theorem mw_1453 : Cond.methodLink RX7 213 yX7_others ∈ w_all := w_inT w_s6 156 rfl rfl
theorem mw_1455 : Cond.instanceMethod yX7_others ∈ w_all := w_inT w_s6 158 rfl rfl
theorem mw_1456 : Cond.code yX7_others cX7_others 3 (some .int) ∈ w_all := w_inT w_s6 159 rfl rfl
theorem mw_1457 : Cond.methodLink RX7 216 yX7_takesBack ∈ w_all := w_inT w_s6 160 rfl rfl
theorem mw_1459 : Cond.instanceMethod yX7_takesBack ∈ w_all := w_inT w_s6 162 rfl rfl
theorem mw_1460 : Cond.code yX7_takesBack cX7_takesBack 2 none ∈ w_all := w_inT w_s6 163 rfl rfl
theorem mw_1477 : Cond.constantLong RX7 219 17 ∈ w_all := w_inT w_s6 180 rfl rfl
theorem mw_1478 : Cond.constantLong RX7 221 31 ∈ w_all := w_inT w_s6 181 rfl rfl
theorem mw_1491 : Cond.methodLink RX7 229 yX7_asks ∈ w_all := w_inT w_s6 194 rfl rfl
theorem mw_1493 : Cond.instanceMethod yX7_asks ∈ w_all := w_inT w_s6 196 rfl rfl
theorem mw_1494 : Cond.code yX7_asks cX7_asks 9 none ∈ w_all := w_inT w_s6 197 rfl rfl
theorem mw_1499 : Cond.methodLink RX7 233 yX7_endOf ∈ w_all := w_inT w_s6 202 rfl rfl
theorem mw_1501 : Cond.instanceMethod yX7_endOf ∈ w_all := w_inT w_s6 204 rfl rfl
theorem mw_1502 : Cond.code yX7_endOf cX7_endOf 3 (some .int) ∈ w_all := w_inT w_s6 205 rfl rfl
theorem mw_1511 : Cond.methodLink RX7 242 yX7_journey ∈ w_all := w_inT w_s6 214 rfl rfl
theorem mw_1513 : Cond.instanceMethod yX7_journey ∈ w_all := w_inT w_s6 216 rfl rfl
theorem mw_1514 : Cond.code yX7_journey cX7_journey 8 (some .int) ∈ w_all := w_inT w_s6 217 rfl rfl
theorem mw_1515 : Cond.methodLink RX7 236 yX7_logged ∈ w_all := w_inT w_s6 218 rfl rfl
theorem mw_1517 : Cond.instanceMethod yX7_logged ∈ w_all := w_inT w_s6 220 rfl rfl
theorem mw_1518 : Cond.code yX7_logged cX7_logged 4 (some .int) ∈ w_all := w_inT w_s6 221 rfl rfl
theorem mw_1519 : Cond.methodLink RX7 239 yX7_moved ∈ w_all := w_inT w_s6 222 rfl rfl
theorem mw_1520 : Cond.static yX7_moved ∈ w_all := w_inT w_s6 223 rfl rfl
theorem mw_1521 : Cond.code yX7_moved cX7_moved 3 (some .int) ∈ w_all := w_inT w_s6 224 rfl rfl
theorem mw_1522 : Cond.methodLink RX7 245 yX7_entries ∈ w_all := w_inT w_s6 225 rfl rfl
theorem mw_1524 : Cond.instanceMethod yX7_entries ∈ w_all := w_inT w_s6 227 rfl rfl
theorem mw_1525 : Cond.code yX7_entries cX7_entries 6 (some .int) ∈ w_all := w_inT w_s6 228 rfl rfl
theorem mw_1527 : Cond.instanceMethod yX7_often ∈ w_all := w_inT w_s6 230 rfl rfl
theorem mw_1528 : Cond.selects RX7 yX7_often yX7_often ∈ w_all := w_inT w_s6 231 rfl rfl
theorem mw_1529 : Cond.code yX7_often cX7_often 6 (some .int) ∈ w_all := w_inT w_s6 232 rfl rfl
theorem mw_1542 : Cond.methodLink RX7 248 yX7_hasElsewhere ∈ w_all := w_inT w_s7 5 rfl rfl
theorem mw_1544 : Cond.instanceMethod yX7_hasElsewhere ∈ w_all := w_inT w_s7 7 rfl rfl
theorem mw_1545 : Cond.code yX7_hasElsewhere cX7_hasElsewhere 4 (some .boolean) ∈ w_all := w_inT w_s7 8 rfl rfl
theorem mw_1550 : Cond.methodLink RX7 251 yX7_lays ∈ w_all := w_inT w_s7 13 rfl rfl
theorem mw_1552 : Cond.instanceMethod yX7_lays ∈ w_all := w_inT w_s7 15 rfl rfl
theorem mw_1553 : Cond.code yX7_lays cX7_lays 3 none ∈ w_all := w_inT w_s7 16 rfl rfl
theorem mw_1562 : Cond.methodLink RX7 354 yX7_readsBoard ∈ w_all := w_inT w_s7 25 rfl rfl
theorem mw_1564 : Cond.instanceMethod yX7_readsBoard ∈ w_all := w_inT w_s7 27 rfl rfl
theorem mw_1565 : Cond.code yX7_readsBoard cX7_readsBoard 1 (some .boolean) ∈ w_all := w_inT w_s7 28 rfl rfl
theorem mw_1567 : Cond.methodLink RX7 346 yX7_mustWord ∈ w_all := w_inT w_s7 30 rfl rfl
theorem mw_1569 : Cond.instanceMethod yX7_mustWord ∈ w_all := w_inT w_s7 32 rfl rfl
theorem mw_1570 : Cond.code yX7_mustWord cX7_mustWord 2 (some .boolean) ∈ w_all := w_inT w_s7 33 rfl rfl
theorem mw_1571 : Cond.methodLink RX7 283 yX7_takesWord ∈ w_all := w_inT w_s7 34 rfl rfl
theorem mw_1573 : Cond.instanceMethod yX7_takesWord ∈ w_all := w_inT w_s7 36 rfl rfl
theorem mw_1574 : Cond.code yX7_takesWord cX7_takesWord 3 (some .boolean) ∈ w_all := w_inT w_s7 37 rfl rfl
theorem mw_1575 : Cond.methodLink RX7 279 yX7_isWord ∈ w_all := w_inT w_s7 38 rfl rfl
theorem mw_1577 : Cond.instanceMethod yX7_isWord ∈ w_all := w_inT w_s7 40 rfl rfl
theorem mw_1578 : Cond.code yX7_isWord cX7_isWord 4 (some .boolean) ∈ w_all := w_inT w_s7 41 rfl rfl
theorem mw_1579 : Cond.methodLink RX7 263 yX7_nextByte ∈ w_all := w_inT w_s7 42 rfl rfl
theorem mw_1581 : Cond.instanceMethod yX7_nextByte ∈ w_all := w_inT w_s7 44 rfl rfl
theorem mw_1582 : Cond.code yX7_nextByte cX7_nextByte 1 (some .int) ∈ w_all := w_inT w_s7 45 rfl rfl
theorem mw_1583 : Cond.methodLink RX7 257 yX7_byteAt ∈ w_all := w_inT w_s7 46 rfl rfl
theorem mw_1585 : Cond.instanceMethod yX7_byteAt ∈ w_all := w_inT w_s7 48 rfl rfl
theorem mw_1586 : Cond.code yX7_byteAt cX7_byteAt 2 (some .int) ∈ w_all := w_inT w_s7 49 rfl rfl
theorem mw_1587 : Cond.methodLink RX7 266 yJ0_length_8abf5 ∈ w_all := w_inT w_s7 50 rfl rfl
theorem mw_1588 : Cond.methodLink RX7 271 yJ0_charAt_5068e ∈ w_all := w_inT w_s7 51 rfl rfl
theorem mw_1589 : Cond.constantLong RX7 275 97 ∈ w_all := w_inT w_s7 52 rfl rfl
theorem mw_1590 : Cond.constantLong RX7 277 122 ∈ w_all := w_inT w_s7 53 rfl rfl
theorem mw_1591 : Cond.methodLink RX7 286 yX7_fails ∈ w_all := w_inT w_s7 54 rfl rfl
theorem mw_1593 : Cond.instanceMethod yX7_fails ∈ w_all := w_inT w_s7 56 rfl rfl
theorem mw_1594 : Cond.code yX7_fails cX7_fails 3 (some .boolean) ∈ w_all := w_inT w_s7 57 rfl rfl
theorem mw_1595 : Cond.methodLink RX7 311 yX7_readsNumber ∈ w_all := w_inT w_s7 58 rfl rfl
theorem mw_1597 : Cond.instanceMethod yX7_readsNumber ∈ w_all := w_inT w_s7 60 rfl rfl
theorem mw_1598 : Cond.code yX7_readsNumber cX7_readsNumber 3 (some .boolean) ∈ w_all := w_inT w_s7 61 rfl rfl
theorem mw_1599 : Cond.constantLong RX7 292 48 ∈ w_all := w_inT w_s7 62 rfl rfl
theorem mw_1600 : Cond.constantLong RX7 294 57 ∈ w_all := w_inT w_s7 63 rfl rfl
theorem mw_1602 : Cond.methodLink RX7 351 yX7_readsPart ∈ w_all := w_inT w_s7 65 rfl rfl
theorem mw_1604 : Cond.instanceMethod yX7_readsPart ∈ w_all := w_inT w_s7 67 rfl rfl
theorem mw_1605 : Cond.code yX7_readsPart cX7_readsPart 2 (some .boolean) ∈ w_all := w_inT w_s7 68 rfl rfl
theorem mw_1607 : Cond.methodLink RX7 322 yX7_readsDrum ∈ w_all := w_inT w_s7 70 rfl rfl
theorem mw_1609 : Cond.instanceMethod yX7_readsDrum ∈ w_all := w_inT w_s7 72 rfl rfl
theorem mw_1610 : Cond.code yX7_readsDrum cX7_readsDrum 4 (some .boolean) ∈ w_all := w_inT w_s7 73 rfl rfl
theorem mw_1611 : Cond.methodLink RX7 314 yX7_readsQuoted ∈ w_all := w_inT w_s7 74 rfl rfl
theorem mw_1613 : Cond.instanceMethod yX7_readsQuoted ∈ w_all := w_inT w_s7 76 rfl rfl
theorem mw_1614 : Cond.code yX7_readsQuoted cX7_readsQuoted 3 (some .boolean) ∈ w_all := w_inT w_s7 77 rfl rfl
theorem mw_1615 : Cond.methodLink RX7 302 yX7_mustByte ∈ w_all := w_inT w_s7 78 rfl rfl
theorem mw_1617 : Cond.instanceMethod yX7_mustByte ∈ w_all := w_inT w_s7 80 rfl rfl
theorem mw_1618 : Cond.code yX7_mustByte cX7_mustByte 2 (some .boolean) ∈ w_all := w_inT w_s7 81 rfl rfl
theorem mw_1619 : Cond.methodLink RX7 289 yX7_takesByte ∈ w_all := w_inT w_s7 82 rfl rfl
theorem mw_1621 : Cond.instanceMethod yX7_takesByte ∈ w_all := w_inT w_s7 84 rfl rfl
theorem mw_1622 : Cond.code yX7_takesByte cX7_takesByte 3 (some .boolean) ∈ w_all := w_inT w_s7 85 rfl rfl
theorem mw_1627 : Cond.methodLink RX7 332 yX7_readsCells ∈ w_all := w_inT w_s7 90 rfl rfl
theorem mw_1629 : Cond.instanceMethod yX7_readsCells ∈ w_all := w_inT w_s7 92 rfl rfl
theorem mw_1630 : Cond.code yX7_readsCells cX7_readsCells 5 (some .boolean) ∈ w_all := w_inT w_s7 93 rfl rfl
theorem mw_1631 : Cond.methodLink RX7 335 yX7_readsWorn ∈ w_all := w_inT w_s7 94 rfl rfl
theorem mw_1633 : Cond.instanceMethod yX7_readsWorn ∈ w_all := w_inT w_s7 96 rfl rfl
theorem mw_1634 : Cond.code yX7_readsWorn cX7_readsWorn 2 (some .boolean) ∈ w_all := w_inT w_s7 97 rfl rfl
theorem mw_1635 : Cond.methodLink RX7 338 yX7_readsRow ∈ w_all := w_inT w_s7 98 rfl rfl
theorem mw_1637 : Cond.instanceMethod yX7_readsRow ∈ w_all := w_inT w_s7 100 rfl rfl
theorem mw_1638 : Cond.code yX7_readsRow cX7_readsRow 5 (some .boolean) ∈ w_all := w_inT w_s7 101 rfl rfl
theorem mw_1639 : Cond.methodLink RX7 341 yX7_readsLose ∈ w_all := w_inT w_s7 102 rfl rfl
theorem mw_1641 : Cond.instanceMethod yX7_readsLose ∈ w_all := w_inT w_s7 104 rfl rfl
theorem mw_1642 : Cond.code yX7_readsLose cX7_readsLose 1 (some .boolean) ∈ w_all := w_inT w_s7 105 rfl rfl
theorem mw_1647 : Cond.methodLink RX7 404 yX7_goesProgram ∈ w_all := w_inT w_s7 110 rfl rfl
theorem mw_1649 : Cond.instanceMethod yX7_goesProgram ∈ w_all := w_inT w_s7 112 rfl rfl
theorem mw_1650 : Cond.code yX7_goesProgram cX7_goesProgram 2 (some .boolean) ∈ w_all := w_inT w_s7 113 rfl rfl
theorem mw_1651 : Cond.methodLink RX7 367 yX7_goesAll ∈ w_all := w_inT w_s7 114 rfl rfl
theorem mw_1653 : Cond.instanceMethod yX7_goesAll ∈ w_all := w_inT w_s7 116 rfl rfl
theorem mw_1654 : Cond.code yX7_goesAll cX7_goesAll 2 (some .boolean) ∈ w_all := w_inT w_s7 117 rfl rfl
theorem mw_1655 : Cond.methodLink RX7 401 yX7_goesOne ∈ w_all := w_inT w_s7 118 rfl rfl
theorem mw_1657 : Cond.instanceMethod yX7_goesOne ∈ w_all := w_inT w_s7 120 rfl rfl
theorem mw_1658 : Cond.code yX7_goesOne cX7_goesOne 2 (some .boolean) ∈ w_all := w_inT w_s7 121 rfl rfl
theorem mw_1659 : Cond.methodLink RX7 370 yX7_goesRow ∈ w_all := w_inT w_s7 122 rfl rfl
theorem mw_1661 : Cond.instanceMethod yX7_goesRow ∈ w_all := w_inT w_s7 124 rfl rfl
theorem mw_1662 : Cond.code yX7_goesRow cX7_goesRow 4 (some .boolean) ∈ w_all := w_inT w_s7 125 rfl rfl
theorem mw_1663 : Cond.methodLink RX7 360 yX7_isDone ∈ w_all := w_inT w_s7 126 rfl rfl
theorem mw_1665 : Cond.instanceMethod yX7_isDone ∈ w_all := w_inT w_s7 128 rfl rfl
theorem mw_1666 : Cond.code yX7_isDone cX7_isDone 2 (some .boolean) ∈ w_all := w_inT w_s7 129 rfl rfl
theorem mw_1668 : Cond.methodLink RX7 375 yX7_goesScroll ∈ w_all := w_inT w_s7 131 rfl rfl
theorem mw_1670 : Cond.instanceMethod yX7_goesScroll ∈ w_all := w_inT w_s7 133 rfl rfl
theorem mw_1671 : Cond.code yX7_goesScroll cX7_goesScroll 3 (some .boolean) ∈ w_all := w_inT w_s7 134 rfl rfl
theorem mw_1673 : Cond.methodLink RX7 380 yX7_goesHome ∈ w_all := w_inT w_s7 136 rfl rfl
theorem mw_1675 : Cond.instanceMethod yX7_goesHome ∈ w_all := w_inT w_s7 138 rfl rfl
theorem mw_1676 : Cond.code yX7_goesHome cX7_goesHome 3 (some .boolean) ∈ w_all := w_inT w_s7 139 rfl rfl
theorem mw_1678 : Cond.methodLink RX7 385 yX7_goesWait ∈ w_all := w_inT w_s7 141 rfl rfl
theorem mw_1680 : Cond.instanceMethod yX7_goesWait ∈ w_all := w_inT w_s7 143 rfl rfl
theorem mw_1681 : Cond.code yX7_goesWait cX7_goesWait 4 (some .boolean) ∈ w_all := w_inT w_s7 144 rfl rfl
theorem mw_1683 : Cond.methodLink RX7 390 yX7_goesSettle ∈ w_all := w_inT w_s7 146 rfl rfl
theorem mw_1685 : Cond.instanceMethod yX7_goesSettle ∈ w_all := w_inT w_s7 148 rfl rfl
theorem mw_1686 : Cond.code yX7_goesSettle cX7_goesSettle 3 (some .boolean) ∈ w_all := w_inT w_s7 149 rfl rfl
theorem mw_1687 : Cond.methodLink RX7 393 yX7_goesLose ∈ w_all := w_inT w_s7 150 rfl rfl
theorem mw_1689 : Cond.instanceMethod yX7_goesLose ∈ w_all := w_inT w_s7 152 rfl rfl
theorem mw_1690 : Cond.code yX7_goesLose cX7_goesLose 2 (some .boolean) ∈ w_all := w_inT w_s7 153 rfl rfl
theorem mw_1692 : Cond.methodLink RX7 398 yX7_goesTimes ∈ w_all := w_inT w_s7 155 rfl rfl
theorem mw_1694 : Cond.instanceMethod yX7_goesTimes ∈ w_all := w_inT w_s7 157 rfl rfl
theorem mw_1695 : Cond.code yX7_goesTimes cX7_goesTimes 6 (some .boolean) ∈ w_all := w_inT w_s7 158 rfl rfl
theorem mw_1704 : Cond.methodLink RX7 407 yX7_often ∈ w_all := w_inT w_s7 167 rfl rfl
theorem mw_1705 : Cond.fieldLink RJ0 9 "java/lang/String" "value" "[B" ∈ w_all := w_inT w_s7 168 rfl rfl
theorem mw_1706 : Cond.fieldLink RJ0 15 "java/lang/String" "coder" "B" ∈ w_all := w_inT w_s7 169 rfl rfl
theorem wn1_RJ0 : RJ0 ≠ "java/lang/invoke/MethodHandle" := by decide +kernel
theorem wn2_RJ0 : RJ0 ≠ "java/lang/invoke/VarHandle" := by decide +kernel
theorem wn1_RJ13 : RJ13 ≠ "java/lang/invoke/MethodHandle" := by decide +kernel
theorem wn2_RJ13 : RJ13 ≠ "java/lang/invoke/VarHandle" := by decide +kernel
theorem wn1_RJ1 : RJ1 ≠ "java/lang/invoke/MethodHandle" := by decide +kernel
theorem wn2_RJ1 : RJ1 ≠ "java/lang/invoke/VarHandle" := by decide +kernel
theorem wn1_RJ3 : RJ3 ≠ "java/lang/invoke/MethodHandle" := by decide +kernel
theorem wn2_RJ3 : RJ3 ≠ "java/lang/invoke/VarHandle" := by decide +kernel
theorem wn1_RJ7 : RJ7 ≠ "java/lang/invoke/MethodHandle" := by decide +kernel
theorem wn2_RJ7 : RJ7 ≠ "java/lang/invoke/VarHandle" := by decide +kernel
theorem wn1_RX0 : RX0 ≠ "java/lang/invoke/MethodHandle" := by decide +kernel
theorem wn2_RX0 : RX0 ≠ "java/lang/invoke/VarHandle" := by decide +kernel
theorem wn1_RX1 : RX1 ≠ "java/lang/invoke/MethodHandle" := by decide +kernel
theorem wn2_RX1 : RX1 ≠ "java/lang/invoke/VarHandle" := by decide +kernel
theorem wn1_RX2 : RX2 ≠ "java/lang/invoke/MethodHandle" := by decide +kernel
theorem wn2_RX2 : RX2 ≠ "java/lang/invoke/VarHandle" := by decide +kernel
theorem wn1_RX4 : RX4 ≠ "java/lang/invoke/MethodHandle" := by decide +kernel
theorem wn2_RX4 : RX4 ≠ "java/lang/invoke/VarHandle" := by decide +kernel
theorem wn1_RX5 : RX5 ≠ "java/lang/invoke/MethodHandle" := by decide +kernel
theorem wn2_RX5 : RX5 ≠ "java/lang/invoke/VarHandle" := by decide +kernel
theorem wn1_RX6 : RX6 ≠ "java/lang/invoke/MethodHandle" := by decide +kernel
theorem wn2_RX6 : RX6 ≠ "java/lang/invoke/VarHandle" := by decide +kernel
theorem wn1_RX7 : RX7 ≠ "java/lang/invoke/MethodHandle" := by decide +kernel
theorem wn2_RX7 : RX7 ≠ "java/lang/invoke/VarHandle" := by decide +kernel
theorem wn1_RX3 : RX3 ≠ "java/lang/invoke/MethodHandle" := by decide +kernel
theorem wn2_RX3 : RX3 ≠ "java/lang/invoke/VarHandle" := by decide +kernel
theorem wpd_0 : (parseMethodDescriptor "(I)C").map (fun d => d.parameters.length) = some 1 := by decide +kernel
theorem wpd_1 : (parseMethodDescriptor "(II)V").map (fun d => d.parameters.length) = some 2 := by decide +kernel
theorem wpd_2 : (parseMethodDescriptor "()B").map (fun d => d.parameters.length) = some 0 := by decide +kernel
theorem wpd_3 : (parseMethodDescriptor "()Z").map (fun d => d.parameters.length) = some 0 := by decide +kernel
theorem wpd_4 : (parseMethodDescriptor "()I").map (fun d => d.parameters.length) = some 0 := by decide +kernel
theorem wpd_5 : (parseMethodDescriptor "(J)I").map (fun d => d.parameters.length) = some 1 := by decide +kernel
theorem wpd_6 : (parseMethodDescriptor "([BI)C").map (fun d => d.parameters.length) = some 2 := by decide +kernel
theorem wpd_7 : (parseMethodDescriptor "(IILjava/util/function/BiFunction;)I").map (fun d => d.parameters.length) = some 3 := by decide +kernel
theorem wpd_8 : (parseMethodDescriptor "([II)V").map (fun d => d.parameters.length) = some 2 := by decide +kernel
theorem wpd_9 : (parseMethodDescriptor "(ILFlapBoard$Tape;II)V").map (fun d => d.parameters.length) = some 4 := by decide +kernel
theorem wpd_10 : (parseMethodDescriptor "(I)I").map (fun d => d.parameters.length) = some 1 := by decide +kernel
theorem wpd_11 : (parseMethodDescriptor "()V").map (fun d => d.parameters.length) = some 0 := by decide +kernel
theorem wpd_12 : (parseMethodDescriptor "(LFlapBoard$Board;)V").map (fun d => d.parameters.length) = some 1 := by decide +kernel
theorem wpd_13 : (parseMethodDescriptor "(IILFlapBoard$Tape;II)I").map (fun d => d.parameters.length) = some 5 := by decide +kernel
theorem wpd_14 : (parseMethodDescriptor "(II)Z").map (fun d => d.parameters.length) = some 2 := by decide +kernel
theorem wpd_15 : (parseMethodDescriptor "(IIZ)I").map (fun d => d.parameters.length) = some 3 := by decide +kernel
theorem wpd_16 : (parseMethodDescriptor "(IIII)I").map (fun d => d.parameters.length) = some 4 := by decide +kernel
theorem wpd_17 : (parseMethodDescriptor "(II)I").map (fun d => d.parameters.length) = some 2 := by decide +kernel
theorem wpd_18 : (parseMethodDescriptor "(III)I").map (fun d => d.parameters.length) = some 3 := by decide +kernel
theorem wpd_19 : (parseMethodDescriptor "(I)Z").map (fun d => d.parameters.length) = some 1 := by decide +kernel
theorem wpd_20 : (parseMethodDescriptor "(Z)I").map (fun d => d.parameters.length) = some 1 := by decide +kernel
theorem wpd_21 : (parseMethodDescriptor "(LFlapBoard$Tape;II)I").map (fun d => d.parameters.length) = some 3 := by decide +kernel
theorem wpd_22 : (parseMethodDescriptor "([I)I").map (fun d => d.parameters.length) = some 1 := by decide +kernel
theorem wpd_23 : (parseMethodDescriptor "(I)V").map (fun d => d.parameters.length) = some 1 := by decide +kernel
theorem wpd_24 : (parseMethodDescriptor "(ILFlapBoard$Tape;II)I").map (fun d => d.parameters.length) = some 4 := by decide +kernel
theorem wpd_25 : (parseMethodDescriptor "(LFlapBoard$Board;LFlapBoard$Tape;)V").map (fun d => d.parameters.length) = some 2 := by decide +kernel
theorem wpd_26 : (parseMethodDescriptor "()J").map (fun d => d.parameters.length) = some 0 := by decide +kernel
theorem wpd_27 : (parseMethodDescriptor "(LFlapBoard$Board;)I").map (fun d => d.parameters.length) = some 1 := by decide +kernel
theorem wpd_28 : (parseMethodDescriptor "(LFlapBoard$Board;I)V").map (fun d => d.parameters.length) = some 2 := by decide +kernel
theorem wpd_29 : (parseMethodDescriptor "(IIII)V").map (fun d => d.parameters.length) = some 4 := by decide +kernel
theorem wpd_30 : (parseMethodDescriptor "(LFlapBoard$Tape;)Z").map (fun d => d.parameters.length) = some 1 := by decide +kernel
theorem wpd_31 : (parseMethodDescriptor "(LFlapBoard$Tape;)V").map (fun d => d.parameters.length) = some 1 := by decide +kernel
theorem wpd_32 : (parseMethodDescriptor "(LFlapBoard$Tape;LFlapBoard$Board;)V").map (fun d => d.parameters.length) = some 2 := by decide +kernel
theorem wpd_33 : (parseMethodDescriptor "(ILFlapBoard$Tape;LFlapBoard$Board;)V").map (fun d => d.parameters.length) = some 3 := by decide +kernel
theorem wpd_34 : (parseMethodDescriptor "(Ljava/lang/String;)Z").map (fun d => d.parameters.length) = some 1 := by decide +kernel
theorem wpd_35 : (parseMethodDescriptor "(IZ)I").map (fun d => d.parameters.length) = some 2 := by decide +kernel
theorem wpd_36 : (parseMethodDescriptor "(Z)Z").map (fun d => d.parameters.length) = some 1 := by decide +kernel
theorem wpd_37 : (parseMethodDescriptor "(JJJ)Z").map (fun d => d.parameters.length) = some 3 := by decide +kernel
theorem wpd_38 : (parseMethodDescriptor "(JI)Z").map (fun d => d.parameters.length) = some 2 := by decide +kernel
theorem wpd_39 : (parseMethodDescriptor "(IIJ)V").map (fun d => d.parameters.length) = some 3 := by decide +kernel
theorem wpd_40 : (parseMethodDescriptor "(IIZ)V").map (fun d => d.parameters.length) = some 3 := by decide +kernel
theorem wpd_41 : (parseMethodDescriptor "(IIIZ)I").map (fun d => d.parameters.length) = some 4 := by decide +kernel
theorem wpd_42 : (parseMethodDescriptor "(I)J").map (fun d => d.parameters.length) = some 1 := by decide +kernel
theorem wpd_43 : (parseMethodDescriptor "(III)V").map (fun d => d.parameters.length) = some 3 := by decide +kernel
theorem wpd_44 : (parseMethodDescriptor "(LFlapBoard$Board;)Z").map (fun d => d.parameters.length) = some 1 := by decide +kernel
theorem wpd_45 : (parseMethodDescriptor "(IIIII)I").map (fun d => d.parameters.length) = some 5 := by decide +kernel
theorem wd_J0_charAt_5068e : wd_V yJ0_charAt_5068e cJ0_charAt_5068e 2 (some .char) 1 := ⟨mw_447, mw_448, mw_106, mw_449, wn1_RJ0, wn2_RJ0, wpd_0⟩
theorem wd_J0_checkIndex_df160 : wd_S yJ0_checkIndex_df160 cJ0_checkIndex_df160 2 none 2 := ⟨mw_458, mw_106, mw_459, wn1_RJ0, wn2_RJ0, wpd_1⟩
theorem wd_J0_coder_7d493 : wd_V yJ0_coder_7d493 cJ0_coder_7d493 1 (some .byte) 0 := ⟨mw_441, mw_442, mw_106, mw_443, wn1_RJ0, wn2_RJ0, wpd_2⟩
theorem wd_J0_isLatin1_aae02 : wd_V yJ0_isLatin1_aae02 cJ0_isLatin1_aae02 1 (some .boolean) 0 := ⟨mw_451, mw_452, mw_106, mw_453, wn1_RJ0, wn2_RJ0, wpd_3⟩
theorem wd_J0_length_8abf5 : wd_V yJ0_length_8abf5 cJ0_length_8abf5 1 (some .int) 0 := ⟨mw_437, mw_438, mw_106, mw_439, wn1_RJ0, wn2_RJ0, wpd_4⟩
theorem wd_J13_bitCount_95d88 : wd_S yJ13_bitCount_95d88 cJ13_bitCount_95d88 2 (some .int) 1 := ⟨mw_747, mw_113, mw_748, wn1_RJ13, wn2_RJ13, wpd_5⟩
theorem wd_J1_charAt_3b067 : wd_S yJ1_charAt_3b067 cJ1_charAt_3b067 2 (some .char) 2 := ⟨mw_455, mw_107, mw_456, wn1_RJ1, wn2_RJ1, wpd_6⟩
theorem wd_J3_checkIndex_8e157 : wd_S yJ3_checkIndex_8e157 cJ3_checkIndex_8e157 3 (some .int) 3 := ⟨mw_463, mw_108, mw_464, wn1_RJ3, wn2_RJ3, wpd_7⟩
theorem wd_J7_fill_53178 : wd_S yJ7_fill_53178 cJ7_fill_53178 4 none 2 := ⟨mw_610, mw_112, mw_611, wn1_RJ7, wn2_RJ7, wpd_8⟩
theorem wd_X0_addDrum : wd_V yX0_addDrum cX0_addDrum 6 none 4 := ⟨mw_534, mw_535, mw_100, mw_536, wn1_RX0, wn2_RX0, wpd_9⟩
theorem wd_X0_cells : wd_V yX0_cells cX0_cells 1 (some .int) 0 := ⟨mw_542, mw_543, mw_100, mw_544, wn1_RX0, wn2_RX0, wpd_4⟩
theorem wd_X0_cellsWith : wd_V yX0_cellsWith cX0_cellsWith 4 (some .int) 1 := ⟨mw_910, mw_911, mw_100, mw_912, wn1_RX0, wn2_RX0, wpd_10⟩
theorem wd_X0_clear : wd_V yX0_clear cX0_clear 2 none 0 := ⟨mw_397, mw_398, mw_100, mw_399, wn1_RX0, wn2_RX0, wpd_11⟩
theorem wd_X0_copyAllButLog : wd_V yX0_copyAllButLog cX0_copyAllButLog 3 none 1 := ⟨mw_591, mw_592, mw_100, mw_593, wn1_RX0, wn2_RX0, wpd_12⟩
theorem wd_X0_costOf : wd_V yX0_costOf cX0_costOf 10 (some .int) 5 := ⟨mw_1010, mw_1011, mw_100, mw_1012, wn1_RX0, wn2_RX0, wpd_13⟩
theorem wd_X0_currentOf : wd_V yX0_currentOf cX0_currentOf 3 (some .int) 1 := ⟨mw_707, mw_708, mw_100, mw_709, wn1_RX0, wn2_RX0, wpd_10⟩
theorem wd_X0_drumHas : wd_V yX0_drumHas cX0_drumHas 3 (some .boolean) 2 := ⟨mw_1097, mw_1098, mw_100, mw_1099, wn1_RX0, wn2_RX0, wpd_14⟩
theorem wd_X0_emptyLog : wd_V yX0_emptyLog cX0_emptyLog 2 none 0 := ⟨mw_598, mw_599, mw_100, mw_600, wn1_RX0, wn2_RX0, wpd_11⟩
theorem wd_X0_entriesOf : wd_V yX0_entriesOf cX0_entriesOf 8 (some .int) 3 := ⟨mw_1049, mw_1050, mw_100, mw_1051, wn1_RX0, wn2_RX0, wpd_15⟩
theorem wd_X0_entryAt : wd_V yX0_entryAt cX0_entryAt 6 (some .int) 4 := ⟨mw_1042, mw_21, mw_100, mw_1043, wn1_RX0, wn2_RX0, wpd_16⟩
theorem wd_X0_entryCount : wd_V yX0_entryCount cX0_entryCount 1 (some .int) 0 := ⟨mw_602, mw_603, mw_100, mw_604, wn1_RX0, wn2_RX0, wpd_4⟩
theorem wd_X0_entryStart : wd_V yX0_entryStart cX0_entryStart 4 (some .int) 1 := ⟨mw_607, mw_3, mw_100, mw_608, wn1_RX0, wn2_RX0, wpd_10⟩
theorem wd_X0_flapFor : wd_V yX0_flapFor cX0_flapFor 6 (some .int) 5 := ⟨mw_570, mw_2, mw_100, mw_571, wn1_RX0, wn2_RX0, wpd_13⟩
theorem wd_X0_flapsOf : wd_V yX0_flapsOf cX0_flapsOf 3 (some .int) 1 := ⟨mw_550, mw_551, mw_100, mw_552, wn1_RX0, wn2_RX0, wpd_10⟩
theorem wd_X0_flapsOn : wd_V yX0_flapsOn cX0_flapsOn 2 (some .int) 1 := ⟨mw_773, mw_774, mw_100, mw_775, wn1_RX0, wn2_RX0, wpd_10⟩
theorem wd_X0_flapsOnTo : wd_V yX0_flapsOnTo cX0_flapsOnTo 3 (some .int) 2 := ⟨mw_1014, mw_1015, mw_100, mw_1016, wn1_RX0, wn2_RX0, wpd_17⟩
theorem wd_X0_flapsWith : wd_V yX0_flapsWith cX0_flapsWith 8 (some .int) 3 := ⟨mw_922, mw_923, mw_100, mw_924, wn1_RX0, wn2_RX0, wpd_18⟩
theorem wd_X0_hasCell : wd_V yX0_hasCell cX0_hasCell 2 (some .boolean) 1 := ⟨mw_585, mw_586, mw_100, mw_587, wn1_RX0, wn2_RX0, wpd_19⟩
theorem wd_X0_hasDrum : wd_V yX0_hasDrum cX0_hasDrum 2 (some .boolean) 1 := ⟨mw_905, mw_906, mw_100, mw_907, wn1_RX0, wn2_RX0, wpd_19⟩
theorem wd_X0_hasFlap : wd_V yX0_hasFlap cX0_hasFlap 3 (some .boolean) 2 := ⟨mw_737, mw_738, mw_100, mw_739, wn1_RX0, wn2_RX0, wpd_14⟩
theorem wd_X0_hasRow : wd_V yX0_hasRow cX0_hasRow 2 (some .boolean) 1 := ⟨mw_622, mw_623, mw_100, mw_624, wn1_RX0, wn2_RX0, wpd_19⟩
theorem wd_X0_isLastOfSign : wd_V yX0_isLastOfSign cX0_isLastOfSign 3 (some .boolean) 2 := ⟨mw_918, mw_919, mw_100, mw_920, wn1_RX0, wn2_RX0, wpd_14⟩
theorem wd_X0_isMovable : wd_V yX0_isMovable cX0_isMovable 3 (some .boolean) 2 := ⟨mw_769, mw_770, mw_100, mw_771, wn1_RX0, wn2_RX0, wpd_14⟩
theorem wd_X0_isThere : wd_V yX0_isThere cX0_isThere 1 (some .boolean) 0 := ⟨mw_678, mw_679, mw_100, mw_680, wn1_RX0, wn2_RX0, wpd_3⟩
theorem wd_X0_isWorn : wd_V yX0_isWorn cX0_isWorn 3 (some .boolean) 2 := ⟨mw_554, mw_555, mw_100, mw_556, wn1_RX0, wn2_RX0, wpd_14⟩
theorem wd_X0_journey : wd_V yX0_journey cX0_journey 7 (some .int) 1 := ⟨mw_1037, mw_1038, mw_100, mw_1039, wn1_RX0, wn2_RX0, wpd_10⟩
theorem wd_X0_journeyChange : wd_V yX0_journeyChange cX0_journeyChange 11 (some .int) 3 := ⟨mw_1070, mw_1071, mw_100, mw_1072, wn1_RX0, wn2_RX0, wpd_18⟩
theorem wd_X0_leftOf : wd_V yX0_leftOf cX0_leftOf 4 (some .int) 1 := ⟨mw_700, mw_701, mw_100, mw_702, wn1_RX0, wn2_RX0, wpd_10⟩
theorem wd_X0_leftOfAll : wd_V yX0_leftOfAll cX0_leftOfAll 4 (some .int) 1 := ⟨mw_962, mw_963, mw_100, mw_964, wn1_RX0, wn2_RX0, wpd_20⟩
theorem wd_X0_logSize : wd_V yX0_logSize cX0_logSize 4 (some .int) 1 := ⟨mw_1045, mw_1046, mw_100, mw_1047, wn1_RX0, wn2_RX0, wpd_10⟩
theorem wd_X0_makeCell : wd_V yX0_makeCell cX0_makeCell 3 none 2 := ⟨mw_401, mw_402, mw_100, mw_403, wn1_RX0, wn2_RX0, wpd_1⟩
theorem wd_X0_missedOfOwn : wd_V yX0_missedOfOwn cX0_missedOfOwn 5 (some .int) 1 := ⟨mw_1085, mw_1086, mw_100, mw_1087, wn1_RX0, wn2_RX0, wpd_10⟩
theorem wd_X0_missesOf : wd_V yX0_missesOf cX0_missesOf 8 (some .int) 5 := ⟨mw_1025, mw_1026, mw_100, mw_1027, wn1_RX0, wn2_RX0, wpd_13⟩
theorem wd_X0_mostLeft : wd_V yX0_mostLeft cX0_mostLeft 3 (some .int) 0 := ⟨mw_968, mw_969, mw_100, mw_970, wn1_RX0, wn2_RX0, wpd_4⟩
theorem wd_X0_mostOfOneSign : wd_V yX0_mostOfOneSign cX0_mostOfOneSign 4 (some .int) 1 := ⟨mw_926, mw_927, mw_100, mw_928, wn1_RX0, wn2_RX0, wpd_10⟩
theorem wd_X0_nearest : wd_V yX0_nearest cX0_nearest 10 (some .int) 2 := ⟨mw_573, mw_574, mw_100, mw_575, wn1_RX0, wn2_RX0, wpd_17⟩
theorem wd_X0_scrollUp : wd_V yX0_scrollUp cX0_scrollUp 6 (some .int) 3 := ⟨mw_657, mw_658, mw_100, mw_659, wn1_RX0, wn2_RX0, wpd_21⟩
theorem wd_X0_setLost : wd_V yX0_setLost cX0_setLost 3 none 2 := ⟨mw_581, mw_582, mw_100, mw_583, wn1_RX0, wn2_RX0, wpd_1⟩
theorem wd_X0_showSigns : wd_V yX0_showSigns cX0_showSigns 8 none 4 := ⟨mw_565, mw_566, mw_100, mw_567, wn1_RX0, wn2_RX0, wpd_9⟩
theorem wd_X0_showsWrong : wd_V yX0_showsWrong cX0_showsWrong 2 (some .boolean) 1 := ⟨mw_953, mw_954, mw_100, mw_955, wn1_RX0, wn2_RX0, wpd_19⟩
theorem wd_X0_signOf : wd_V yX0_signOf cX0_signOf 3 (some .int) 2 := ⟨mw_669, mw_670, mw_100, mw_671, wn1_RX0, wn2_RX0, wpd_17⟩
theorem wd_X0_signOn : wd_V yX0_signOn cX0_signOn 3 (some .int) 2 := ⟨mw_665, mw_666, mw_100, mw_667, wn1_RX0, wn2_RX0, wpd_17⟩
theorem wd_X0_signsOfOthers : wd_V yX0_signsOfOthers cX0_signsOfOthers 4 (some .int) 1 := ⟨mw_1089, mw_1090, mw_100, mw_1091, wn1_RX0, wn2_RX0, wpd_10⟩
theorem wd_X0_someDrumHas : wd_V yX0_someDrumHas cX0_someDrumHas 3 (some .boolean) 1 := ⟨mw_1093, mw_1094, mw_100, mw_1095, wn1_RX0, wn2_RX0, wpd_19⟩
theorem wd_X0_stepOn : wd_V yX0_stepOn cX0_stepOn 5 (some .int) 1 := ⟨mw_711, mw_712, mw_100, mw_713, wn1_RX0, wn2_RX0, wpd_10⟩
theorem wd_X0_sumOf : wd_V yX0_sumOf cX0_sumOf 4 (some .int) 1 := ⟨mw_998, mw_999, mw_100, mw_1000, wn1_RX0, wn2_RX0, wpd_22⟩
theorem wd_X0_unlikeEntries : wd_V yX0_unlikeEntries cX0_unlikeEntries 7 (some .int) 1 := ⟨mw_1053, mw_1054, mw_100, mw_1055, wn1_RX0, wn2_RX0, wpd_10⟩
theorem wd_X0_unlikeSigns : wd_V yX0_unlikeSigns cX0_unlikeSigns 4 (some .int) 1 := ⟨mw_914, mw_915, mw_100, mw_916, wn1_RX0, wn2_RX0, wpd_10⟩
theorem wd_X0_wantFlap : wd_V yX0_wantFlap cX0_wantFlap 5 (some .int) 2 := ⟨mw_649, mw_6, mw_100, mw_650, wn1_RX0, wn2_RX0, wpd_17⟩
theorem wd_X0_wantHome : wd_V yX0_wantHome cX0_wantHome 3 none 1 := ⟨mw_856, mw_857, mw_100, mw_858, wn1_RX0, wn2_RX0, wpd_23⟩
theorem wd_X0_wantSigns : wd_V yX0_wantSigns cX0_wantSigns 8 (some .int) 4 := ⟨mw_644, mw_645, mw_100, mw_646, wn1_RX0, wn2_RX0, wpd_24⟩
theorem wd_X0_wantedSign : wd_V yX0_wantedSign cX0_wantedSign 2 (some .int) 1 := ⟨mw_661, mw_662, mw_100, mw_663, wn1_RX0, wn2_RX0, wpd_10⟩
theorem wd_X0_wearFlap : wd_V yX0_wearFlap cX0_wearFlap 3 none 2 := ⟨mw_558, mw_559, mw_100, mw_560, wn1_RX0, wn2_RX0, wpd_1⟩
theorem wd_X0_wornCount : wd_V yX0_wornCount cX0_wornCount 2 (some .int) 1 := ⟨mw_743, mw_744, mw_100, mw_745, wn1_RX0, wn2_RX0, wpd_10⟩
theorem wd_X0_wrongCount : wd_V yX0_wrongCount cX0_wrongCount 3 (some .int) 0 := ⟨mw_985, mw_986, mw_100, mw_987, wn1_RX0, wn2_RX0, wpd_4⟩
theorem wd_X1_readCells : wd_S yX1_readCells cX1_readCells 7 none 2 := ⟨mw_539, mw_105, mw_540, wn1_RX1, wn2_RX1, wpd_25⟩
theorem wd_X1_readDrum : wd_S yX1_readDrum cX1_readDrum 3 none 2 := ⟨mw_522, mw_105, mw_523, wn1_RX1, wn2_RX1, wpd_25⟩
theorem wd_X1_readHead : wd_S yX1_readHead cX1_readHead 6 none 2 := ⟨mw_409, mw_105, mw_410, wn1_RX1, wn2_RX1, wpd_25⟩
theorem wd_X1_readInto : wd_S yX1_readInto cX1_readInto 3 none 2 := ⟨mw_394, mw_105, mw_395, wn1_RX1, wn2_RX1, wpd_25⟩
theorem wd_X1_readLose : wd_S yX1_readLose cX1_readLose 4 none 2 := ⟨mw_578, mw_105, mw_579, wn1_RX1, wn2_RX1, wpd_25⟩
theorem wd_X1_readPart : wd_S yX1_readPart cX1_readPart 4 none 2 := ⟨mw_517, mw_105, mw_518, wn1_RX1, wn2_RX1, wpd_25⟩
theorem wd_X1_readRow : wd_S yX1_readRow cX1_readRow 3 none 2 := ⟨mw_562, mw_105, mw_563, wn1_RX1, wn2_RX1, wpd_25⟩
theorem wd_X1_readWorn : wd_S yX1_readWorn cX1_readWorn 4 none 2 := ⟨mw_547, mw_105, mw_548, wn1_RX1, wn2_RX1, wpd_25⟩
theorem wd_X2_choose : wd_V yX2_choose cX2_choose 7 none 1 := ⟨mw_690, mw_691, mw_101, mw_692, wn1_RX2, wn2_RX2, wpd_12⟩
theorem wd_X2_chosenBits : wd_V yX2_chosenBits cX2_chosenBits 4 (some .long) 0 := ⟨mw_945, mw_946, mw_101, mw_947, wn1_RX2, wn2_RX2, wpd_26⟩
theorem wd_X2_countTick : wd_V yX2_countTick cX2_countTick 2 none 1 := ⟨mw_719, mw_9, mw_101, mw_720, wn1_RX2, wn2_RX2, wpd_23⟩
theorem wd_X2_sortByLeft : wd_V yX2_sortByLeft cX2_sortByLeft 5 (some .int) 1 := ⟨mw_695, mw_8, mw_101, mw_696, wn1_RX2, wn2_RX2, wpd_27⟩
theorem wd_X2_startCounting : wd_V yX2_startCounting cX2_startCounting 1 none 0 := ⟨mw_687, mw_7, mw_101, mw_688, wn1_RX2, wn2_RX2, wpd_11⟩
theorem wd_X2_turn : wd_V yX2_turn cX2_turn 5 none 2 := ⟨mw_682, mw_683, mw_101, mw_684, wn1_RX2, wn2_RX2, wpd_28⟩
theorem wd_X4_addStep : wd_V yX4_addStep cX4_addStep 5 none 4 := ⟨mw_812, mw_13, mw_102, mw_813, wn1_RX4, wn2_RX4, wpd_29⟩
theorem wd_X4_closeTimes : wd_V yX4_closeTimes cX4_closeTimes 2 none 1 := ⟨mw_820, mw_15, mw_102, mw_821, wn1_RX4, wn2_RX4, wpd_23⟩
theorem wd_X4_endOf : wd_V yX4_endOf cX4_endOf 2 (some .int) 1 := ⟨mw_866, mw_867, mw_102, mw_868, wn1_RX4, wn2_RX4, wpd_10⟩
theorem wd_X4_goOn : wd_V yX4_goOn cX4_goOn 2 none 0 := ⟨mw_860, mw_861, mw_102, mw_862, wn1_RX4, wn2_RX4, wpd_11⟩
theorem wd_X4_goesOn : wd_V yX4_goesOn cX4_goesOn 4 (some .boolean) 1 := ⟨mw_816, mw_14, mw_102, mw_817, wn1_RX4, wn2_RX4, wpd_30⟩
theorem wd_X4_hasStep : wd_V yX4_hasStep cX4_hasStep 2 (some .boolean) 1 := ⟨mw_823, mw_824, mw_102, mw_825, wn1_RX4, wn2_RX4, wpd_19⟩
theorem wd_X4_kindOf : wd_V yX4_kindOf cX4_kindOf 2 (some .int) 1 := ⟨mw_848, mw_849, mw_102, mw_850, wn1_RX4, wn2_RX4, wpd_10⟩
theorem wd_X4_oneOf : wd_V yX4_oneOf cX4_oneOf 2 (some .int) 1 := ⟨mw_840, mw_841, mw_102, mw_842, wn1_RX4, wn2_RX4, wpd_10⟩
theorem wd_X4_openTimes : wd_V yX4_openTimes cX4_openTimes 2 none 1 := ⟨mw_804, mw_12, mw_102, mw_805, wn1_RX4, wn2_RX4, wpd_31⟩
theorem wd_X4_quotedOf : wd_V yX4_quotedOf cX4_quotedOf 2 (some .int) 1 := ⟨mw_852, mw_853, mw_102, mw_854, wn1_RX4, wn2_RX4, wpd_10⟩
theorem wd_X4_readFrom : wd_V yX4_readFrom cX4_readFrom 6 none 2 := ⟨mw_790, mw_791, mw_102, mw_792, wn1_RX4, wn2_RX4, wpd_32⟩
theorem wd_X4_readStep : wd_V yX4_readStep cX4_readStep 6 none 3 := ⟨mw_797, mw_11, mw_102, mw_798, wn1_RX4, wn2_RX4, wpd_33⟩
theorem wd_X4_startDoing : wd_V yX4_startDoing cX4_startDoing 1 none 0 := ⟨mw_831, mw_832, mw_102, mw_833, wn1_RX4, wn2_RX4, wpd_11⟩
theorem wd_X4_twoOf : wd_V yX4_twoOf cX4_twoOf 2 (some .int) 1 := ⟨mw_844, mw_845, mw_102, mw_846, wn1_RX4, wn2_RX4, wpd_10⟩
theorem wd_X5_addNumber : wd_V yX5_addNumber cX5_addNumber 3 none 1 := ⟨mw_382, mw_383, mw_99, mw_384, wn1_RX5, wn2_RX5, wpd_23⟩
theorem wd_X5_blame : wd_V yX5_blame cX5_blame 3 none 2 := ⟨mw_496, mw_497, mw_99, mw_498, wn1_RX5, wn2_RX5, wpd_1⟩
theorem wd_X5_byteAt : wd_V yX5_byteAt cX5_byteAt 2 (some .int) 1 := ⟨mw_424, mw_425, mw_99, mw_426, wn1_RX5, wn2_RX5, wpd_10⟩
theorem wd_X5_isRead : wd_V yX5_isRead cX5_isRead 3 (some .boolean) 1 := ⟨mw_434, mw_1, mw_99, mw_435, wn1_RX5, wn2_RX5, wpd_34⟩
theorem wd_X5_isSound : wd_V yX5_isSound cX5_isSound 1 (some .boolean) 0 := ⟨mw_508, mw_509, mw_99, mw_510, wn1_RX5, wn2_RX5, wpd_3⟩
theorem wd_X5_peek : wd_V yX5_peek cX5_peek 1 (some .int) 0 := ⟨mw_420, mw_421, mw_99, mw_422, wn1_RX5, wn2_RX5, wpd_4⟩
theorem wd_X5_startReading : wd_V yX5_startReading cX5_startReading 1 none 0 := ⟨mw_405, mw_406, mw_99, mw_407, wn1_RX5, wn2_RX5, wpd_11⟩
theorem wd_X5_takeByte : wd_V yX5_takeByte cX5_takeByte 2 none 1 := ⟨mw_513, mw_514, mw_99, mw_515, wn1_RX5, wn2_RX5, wpd_23⟩
theorem wd_X5_takeNumber : wd_V yX5_takeNumber cX5_takeNumber 4 (some .int) 2 := ⟨mw_500, mw_501, mw_99, mw_502, wn1_RX5, wn2_RX5, wpd_17⟩
theorem wd_X5_takeQuoted : wd_V yX5_takeQuoted cX5_takeQuoted 3 none 2 := ⟨mw_525, mw_526, mw_99, mw_527, wn1_RX5, wn2_RX5, wpd_1⟩
theorem wd_X5_takeThisWord : wd_V yX5_takeThisWord cX5_takeThisWord 2 none 1 := ⟨mw_412, mw_413, mw_99, mw_414, wn1_RX5, wn2_RX5, wpd_23⟩
theorem wd_X5_takeWord : wd_V yX5_takeWord cX5_takeWord 1 (some .int) 0 := ⟨mw_416, mw_417, mw_99, mw_418, wn1_RX5, wn2_RX5, wpd_4⟩
theorem wd_X5_wordRead : wd_V yX5_wordRead cX5_wordRead 1 (some .int) 0 := ⟨mw_429, mw_0, mw_99, mw_430, wn1_RX5, wn2_RX5, wpd_4⟩
theorem wd_X6_behind : wd_S yX6_behind cX6_behind 2 (some .int) 2 := ⟨mw_715, mw_98, mw_716, wn1_RX6, wn2_RX6, wpd_17⟩
theorem wd_X6_doStep : wd_V yX6_doStep cX6_doStep 4 none 1 := ⟨mw_837, mw_17, mw_98, mw_838, wn1_RX6, wn2_RX6, wpd_23⟩
theorem wd_X6_isRowText : wd_V yX6_isRowText cX6_isRowText 4 (some .boolean) 2 := ⟨mw_627, mw_5, mw_98, mw_628, wn1_RX6, wn2_RX6, wpd_14⟩
theorem wd_X6_isShelf : wd_S yX6_isShelf cX6_isShelf 1 (some .boolean) 1 := ⟨mw_882, mw_98, mw_883, wn1_RX6, wn2_RX6, wpd_19⟩
theorem wd_X6_isSign : wd_S yX6_isSign cX6_isSign 1 (some .boolean) 1 := ⟨mw_531, mw_98, mw_532, wn1_RX6, wn2_RX6, wpd_19⟩
theorem wd_X6_isSuch : wd_V yX6_isSuch cX6_isSuch 3 (some .boolean) 2 := ⟨mw_950, mw_18, mw_98, mw_951, wn1_RX6, wn2_RX6, wpd_14⟩
theorem wd_X6_leastTicks : wd_V yX6_leastTicks cX6_leastTicks 3 (some .int) 0 := ⟨mw_973, mw_19, mw_98, mw_974, wn1_RX6, wn2_RX6, wpd_4⟩
theorem wd_X6_onFrom : wd_S yX6_onFrom cX6_onFrom 3 (some .int) 3 := ⟨mw_1018, mw_98, mw_1019, wn1_RX6, wn2_RX6, wpd_18⟩
theorem wd_X6_tryToSettle : wd_V yX6_tryToSettle cX6_tryToSettle 1 none 0 := ⟨mw_982, mw_20, mw_98, mw_983, wn1_RX6, wn2_RX6, wpd_11⟩
theorem wd_X6_whyNotProgram : wd_V yX6_whyNotProgram cX6_whyNotProgram 1 (some .int) 0 := ⟨mw_787, mw_10, mw_98, mw_788, wn1_RX6, wn2_RX6, wpd_4⟩
theorem wd_X6_whyNotRow : wd_V yX6_whyNotRow cX6_whyNotRow 2 (some .int) 1 := ⟨mw_619, mw_4, mw_98, mw_620, wn1_RX6, wn2_RX6, wpd_10⟩
theorem wd_X7_areSigns : wd_V yX7_areSigns cX7_areSigns 4 (some .boolean) 2 := ⟨mw_1226, mw_27, mw_104, mw_1227, wn1_RX7, wn2_RX7, wpd_14⟩
theorem wd_X7_asks : wd_V yX7_asks cX7_asks 9 none 4 := ⟨mw_1493, mw_62, mw_104, mw_1494, wn1_RX7, wn2_RX7, wpd_29⟩
theorem wd_X7_bits : wd_S yX7_bits cX7_bits 4 (some .int) 1 := ⟨mw_1358, mw_104, mw_1359, wn1_RX7, wn2_RX7, wpd_5⟩
theorem wd_X7_byteAt : wd_V yX7_byteAt cX7_byteAt 2 (some .int) 1 := ⟨mw_1585, mw_74, mw_104, mw_1586, wn1_RX7, wn2_RX7, wpd_10⟩
theorem wd_X7_cells : wd_V yX7_cells cX7_cells 1 (some .int) 0 := ⟨mw_1297, mw_41, mw_104, mw_1298, wn1_RX7, wn2_RX7, wpd_4⟩
theorem wd_X7_cellsWith : wd_V yX7_cellsWith cX7_cellsWith 4 (some .int) 1 := ⟨mw_1403, mw_53, mw_104, mw_1404, wn1_RX7, wn2_RX7, wpd_10⟩
theorem wd_X7_current : wd_V yX7_current cX7_current 2 (some .int) 1 := ⟨mw_1318, mw_45, mw_104, mw_1319, wn1_RX7, wn2_RX7, wpd_10⟩
theorem wd_X7_currentOf : wd_V yX7_currentOf cX7_currentOf 2 (some .int) 1 := ⟨mw_1322, mw_46, mw_104, mw_1323, wn1_RX7, wn2_RX7, wpd_10⟩
theorem wd_X7_drums : wd_V yX7_drums cX7_drums 1 (some .int) 0 := ⟨mw_1289, mw_39, mw_104, mw_1290, wn1_RX7, wn2_RX7, wpd_4⟩
theorem wd_X7_endOf : wd_V yX7_endOf cX7_endOf 3 (some .int) 1 := ⟨mw_1501, mw_63, mw_104, mw_1502, wn1_RX7, wn2_RX7, wpd_10⟩
theorem wd_X7_entries : wd_V yX7_entries cX7_entries 6 (some .int) 2 := ⟨mw_1524, mw_66, mw_104, mw_1525, wn1_RX7, wn2_RX7, wpd_35⟩
theorem wd_X7_fails : wd_V yX7_fails cX7_fails 3 (some .boolean) 2 := ⟨mw_1593, mw_75, mw_104, mw_1594, wn1_RX7, wn2_RX7, wpd_14⟩
theorem wd_X7_findsTurning : wd_V yX7_findsTurning cX7_findsTurning 6 none 0 := ⟨mw_1310, mw_43, mw_104, mw_1311, wn1_RX7, wn2_RX7, wpd_11⟩
theorem wd_X7_flapFor : wd_V yX7_flapFor cX7_flapFor 5 (some .int) 2 := ⟨mw_1243, mw_30, mw_104, mw_1244, wn1_RX7, wn2_RX7, wpd_17⟩
theorem wd_X7_flaps : wd_V yX7_flaps cX7_flaps 2 (some .int) 1 := ⟨mw_1247, mw_31, mw_104, mw_1248, wn1_RX7, wn2_RX7, wpd_10⟩
theorem wd_X7_flapsOf : wd_V yX7_flapsOf cX7_flapsOf 2 (some .int) 1 := ⟨mw_1255, mw_33, mw_104, mw_1256, wn1_RX7, wn2_RX7, wpd_10⟩
theorem wd_X7_goesAll : wd_V yX7_goesAll cX7_goesAll 2 (some .boolean) 1 := ⟨mw_1653, mw_87, mw_104, mw_1654, wn1_RX7, wn2_RX7, wpd_36⟩
theorem wd_X7_goesHome : wd_V yX7_goesHome cX7_goesHome 3 (some .boolean) 1 := ⟨mw_1675, mw_92, mw_104, mw_1676, wn1_RX7, wn2_RX7, wpd_36⟩
theorem wd_X7_goesLose : wd_V yX7_goesLose cX7_goesLose 2 (some .boolean) 1 := ⟨mw_1689, mw_95, mw_104, mw_1690, wn1_RX7, wn2_RX7, wpd_36⟩
theorem wd_X7_goesOne : wd_V yX7_goesOne cX7_goesOne 2 (some .boolean) 1 := ⟨mw_1657, mw_88, mw_104, mw_1658, wn1_RX7, wn2_RX7, wpd_36⟩
theorem wd_X7_goesProgram : wd_V yX7_goesProgram cX7_goesProgram 2 (some .boolean) 1 := ⟨mw_1649, mw_86, mw_104, mw_1650, wn1_RX7, wn2_RX7, wpd_36⟩
theorem wd_X7_goesRow : wd_V yX7_goesRow cX7_goesRow 4 (some .boolean) 1 := ⟨mw_1661, mw_89, mw_104, mw_1662, wn1_RX7, wn2_RX7, wpd_36⟩
theorem wd_X7_goesScroll : wd_V yX7_goesScroll cX7_goesScroll 3 (some .boolean) 1 := ⟨mw_1670, mw_91, mw_104, mw_1671, wn1_RX7, wn2_RX7, wpd_36⟩
theorem wd_X7_goesSettle : wd_V yX7_goesSettle cX7_goesSettle 3 (some .boolean) 1 := ⟨mw_1685, mw_94, mw_104, mw_1686, wn1_RX7, wn2_RX7, wpd_36⟩
theorem wd_X7_goesTimes : wd_V yX7_goesTimes cX7_goesTimes 6 (some .boolean) 1 := ⟨mw_1694, mw_96, mw_104, mw_1695, wn1_RX7, wn2_RX7, wpd_36⟩
theorem wd_X7_goesWait : wd_V yX7_goesWait cX7_goesWait 4 (some .boolean) 1 := ⟨mw_1680, mw_93, mw_104, mw_1681, wn1_RX7, wn2_RX7, wpd_36⟩
theorem wd_X7_hasElsewhere : wd_V yX7_hasElsewhere cX7_hasElsewhere 4 (some .boolean) 2 := ⟨mw_1544, mw_67, mw_104, mw_1545, wn1_RX7, wn2_RX7, wpd_14⟩
theorem wd_X7_in : wd_S yX7_in cX7_in 6 (some .boolean) 3 := ⟨mw_1214, mw_104, mw_1215, wn1_RX7, wn2_RX7, wpd_37⟩
theorem wd_X7_isBoard : wd_V yX7_isBoard cX7_isBoard 1 (some .boolean) 0 := ⟨mw_1285, mw_38, mw_104, mw_1286, wn1_RX7, wn2_RX7, wpd_3⟩
theorem wd_X7_isCell : wd_V yX7_isCell cX7_isCell 2 (some .boolean) 1 := ⟨mw_1342, mw_49, mw_104, mw_1343, wn1_RX7, wn2_RX7, wpd_19⟩
theorem wd_X7_isDone : wd_V yX7_isDone cX7_isDone 2 (some .boolean) 1 := ⟨mw_1665, mw_90, mw_104, mw_1666, wn1_RX7, wn2_RX7, wpd_36⟩
theorem wd_X7_isDrum : wd_V yX7_isDrum cX7_isDrum 2 (some .boolean) 1 := ⟨mw_1375, mw_52, mw_104, mw_1376, wn1_RX7, wn2_RX7, wpd_19⟩
theorem wd_X7_isFlap : wd_V yX7_isFlap cX7_isFlap 3 (some .boolean) 2 := ⟨mw_1351, mw_50, mw_104, mw_1352, wn1_RX7, wn2_RX7, wpd_14⟩
theorem wd_X7_isIn : wd_S yX7_isIn cX7_isIn 3 (some .boolean) 2 := ⟨mw_1266, mw_104, mw_1267, wn1_RX7, wn2_RX7, wpd_38⟩
theorem wd_X7_isOther : wd_V yX7_isOther cX7_isOther 2 (some .boolean) 1 := ⟨mw_1437, mw_58, mw_104, mw_1438, wn1_RX7, wn2_RX7, wpd_19⟩
theorem wd_X7_isRow : wd_V yX7_isRow cX7_isRow 2 (some .boolean) 1 := ⟨mw_1207, mw_23, mw_104, mw_1208, wn1_RX7, wn2_RX7, wpd_19⟩
theorem wd_X7_isRowText : wd_V yX7_isRowText cX7_isRowText 2 (some .boolean) 1 := ⟨mw_1218, mw_25, mw_104, mw_1219, wn1_RX7, wn2_RX7, wpd_19⟩
theorem wd_X7_isSign : wd_S yX7_isSign cX7_isSign 1 (some .boolean) 1 := ⟨mw_1229, mw_104, mw_1230, wn1_RX7, wn2_RX7, wpd_19⟩
theorem wd_X7_isSuch : wd_V yX7_isSuch cX7_isSuch 3 (some .boolean) 2 := ⟨mw_1433, mw_57, mw_104, mw_1434, wn1_RX7, wn2_RX7, wpd_14⟩
theorem wd_X7_isWord : wd_V yX7_isWord cX7_isWord 4 (some .boolean) 1 := ⟨mw_1577, mw_72, mw_104, mw_1578, wn1_RX7, wn2_RX7, wpd_34⟩
theorem wd_X7_journey : wd_V yX7_journey cX7_journey 8 (some .int) 3 := ⟨mw_1513, mw_64, mw_104, mw_1514, wn1_RX7, wn2_RX7, wpd_18⟩
theorem wd_X7_keepsAct : wd_V yX7_keepsAct cX7_keepsAct 2 none 0 := ⟨mw_1235, mw_28, mw_104, mw_1236, wn1_RX7, wn2_RX7, wpd_11⟩
theorem wd_X7_lays : wd_V yX7_lays cX7_lays 3 none 1 := ⟨mw_1552, mw_68, mw_104, mw_1553, wn1_RX7, wn2_RX7, wpd_23⟩
theorem wd_X7_leftOf : wd_V yX7_leftOf cX7_leftOf 2 (some .int) 1 := ⟨mw_1314, mw_44, mw_104, mw_1315, wn1_RX7, wn2_RX7, wpd_10⟩
theorem wd_X7_logged : wd_V yX7_logged cX7_logged 4 (some .int) 3 := ⟨mw_1517, mw_65, mw_104, mw_1518, wn1_RX7, wn2_RX7, wpd_18⟩
theorem wd_X7_manyWith : wd_V yX7_manyWith cX7_manyWith 5 (some .int) 2 := ⟨mw_1411, mw_55, mw_104, mw_1412, wn1_RX7, wn2_RX7, wpd_17⟩
theorem wd_X7_moved : wd_S yX7_moved cX7_moved 3 (some .int) 3 := ⟨mw_1520, mw_104, mw_1521, wn1_RX7, wn2_RX7, wpd_18⟩
theorem wd_X7_mustByte : wd_V yX7_mustByte cX7_mustByte 2 (some .boolean) 1 := ⟨mw_1617, mw_80, mw_104, mw_1618, wn1_RX7, wn2_RX7, wpd_19⟩
theorem wd_X7_mustWord : wd_V yX7_mustWord cX7_mustWord 2 (some .boolean) 1 := ⟨mw_1569, mw_70, mw_104, mw_1570, wn1_RX7, wn2_RX7, wpd_34⟩
theorem wd_X7_nextByte : wd_V yX7_nextByte cX7_nextByte 1 (some .int) 0 := ⟨mw_1581, mw_73, mw_104, mw_1582, wn1_RX7, wn2_RX7, wpd_4⟩
theorem wd_X7_of : wd_V yX7_of cX7_of 3 (some .int) 2 := ⟨mw_1251, mw_32, mw_104, mw_1252, wn1_RX7, wn2_RX7, wpd_17⟩
theorem wd_X7_often : wd_V yX7_often cX7_often 6 (some .int) 3 := ⟨mw_1527, mw_1528, mw_104, mw_1529, wn1_RX7, wn2_RX7, wpd_15⟩
theorem wd_X7_on : wd_S yX7_on cX7_on 3 (some .int) 3 := ⟨mw_1269, mw_104, mw_1270, wn1_RX7, wn2_RX7, wpd_18⟩
theorem wd_X7_others : wd_V yX7_others cX7_others 3 (some .int) 0 := ⟨mw_1455, mw_60, mw_104, mw_1456, wn1_RX7, wn2_RX7, wpd_4⟩
theorem wd_X7_putsAside : wd_V yX7_putsAside cX7_putsAside 2 none 0 := ⟨mw_1451, mw_59, mw_104, mw_1452, wn1_RX7, wn2_RX7, wpd_11⟩
theorem wd_X7_readsBoard : wd_V yX7_readsBoard cX7_readsBoard 1 (some .boolean) 0 := ⟨mw_1564, mw_69, mw_104, mw_1565, wn1_RX7, wn2_RX7, wpd_3⟩
theorem wd_X7_readsCells : wd_V yX7_readsCells cX7_readsCells 5 (some .boolean) 0 := ⟨mw_1629, mw_82, mw_104, mw_1630, wn1_RX7, wn2_RX7, wpd_3⟩
theorem wd_X7_readsDrum : wd_V yX7_readsDrum cX7_readsDrum 4 (some .boolean) 0 := ⟨mw_1609, mw_78, mw_104, mw_1610, wn1_RX7, wn2_RX7, wpd_3⟩
theorem wd_X7_readsLose : wd_V yX7_readsLose cX7_readsLose 1 (some .boolean) 0 := ⟨mw_1641, mw_85, mw_104, mw_1642, wn1_RX7, wn2_RX7, wpd_3⟩
theorem wd_X7_readsNumber : wd_V yX7_readsNumber cX7_readsNumber 3 (some .boolean) 2 := ⟨mw_1597, mw_76, mw_104, mw_1598, wn1_RX7, wn2_RX7, wpd_14⟩
theorem wd_X7_readsPart : wd_V yX7_readsPart cX7_readsPart 2 (some .boolean) 0 := ⟨mw_1604, mw_77, mw_104, mw_1605, wn1_RX7, wn2_RX7, wpd_3⟩
theorem wd_X7_readsQuoted : wd_V yX7_readsQuoted cX7_readsQuoted 3 (some .boolean) 2 := ⟨mw_1613, mw_79, mw_104, mw_1614, wn1_RX7, wn2_RX7, wpd_14⟩
theorem wd_X7_readsRow : wd_V yX7_readsRow cX7_readsRow 5 (some .boolean) 0 := ⟨mw_1637, mw_84, mw_104, mw_1638, wn1_RX7, wn2_RX7, wpd_3⟩
theorem wd_X7_readsWorn : wd_V yX7_readsWorn cX7_readsWorn 2 (some .boolean) 0 := ⟨mw_1633, mw_83, mw_104, mw_1634, wn1_RX7, wn2_RX7, wpd_3⟩
theorem wd_X7_rows : wd_V yX7_rows cX7_rows 1 (some .int) 0 := ⟨mw_1211, mw_24, mw_104, mw_1212, wn1_RX7, wn2_RX7, wpd_4⟩
theorem wd_X7_scrolls : wd_V yX7_scrolls cX7_scrolls 6 (some .int) 2 := ⟨mw_1293, mw_40, mw_104, mw_1294, wn1_RX7, wn2_RX7, wpd_17⟩
theorem wd_X7_sets : wd_V yX7_sets cX7_sets 5 none 3 := ⟨mw_1277, mw_37, mw_104, mw_1278, wn1_RX7, wn2_RX7, wpd_39⟩
theorem wd_X7_settles : wd_V yX7_settles cX7_settles 2 (some .int) 0 := ⟨mw_1334, mw_48, mw_104, mw_1335, wn1_RX7, wn2_RX7, wpd_4⟩
theorem wd_X7_signAt : wd_V yX7_signAt cX7_signAt 3 (some .int) 2 := ⟨mw_1424, mw_56, mw_104, mw_1425, wn1_RX7, wn2_RX7, wpd_17⟩
theorem wd_X7_signOf : wd_V yX7_signOf cX7_signOf 3 (some .int) 2 := ⟨mw_1259, mw_34, mw_104, mw_1260, wn1_RX7, wn2_RX7, wpd_17⟩
theorem wd_X7_signsOf : wd_V yX7_signsOf cX7_signsOf 6 (some .int) 2 := ⟨mw_1407, mw_54, mw_104, mw_1408, wn1_RX7, wn2_RX7, wpd_35⟩
theorem wd_X7_steps : wd_V yX7_steps cX7_steps 3 none 1 := ⟨mw_1326, mw_47, mw_104, mw_1327, wn1_RX7, wn2_RX7, wpd_23⟩
theorem wd_X7_takesBack : wd_V yX7_takesBack cX7_takesBack 2 none 0 := ⟨mw_1459, mw_61, mw_104, mw_1460, wn1_RX7, wn2_RX7, wpd_11⟩
theorem wd_X7_takesByte : wd_V yX7_takesByte cX7_takesByte 3 (some .boolean) 1 := ⟨mw_1621, mw_81, mw_104, mw_1622, wn1_RX7, wn2_RX7, wpd_19⟩
theorem wd_X7_takesWord : wd_V yX7_takesWord cX7_takesWord 3 (some .boolean) 1 := ⟨mw_1573, mw_71, mw_104, mw_1574, wn1_RX7, wn2_RX7, wpd_34⟩
theorem wd_X7_ticks : wd_V yX7_ticks cX7_ticks 2 (some .int) 0 := ⟨mw_1306, mw_42, mw_104, mw_1307, wn1_RX7, wn2_RX7, wpd_4⟩
theorem wd_X7_wantsFlap : wd_V yX7_wantsFlap cX7_wantsFlap 4 none 3 := ⟨mw_1273, mw_36, mw_104, mw_1274, wn1_RX7, wn2_RX7, wpd_40⟩
theorem wd_X7_wantsSigns : wd_V yX7_wantsSigns cX7_wantsSigns 9 (some .int) 4 := ⟨mw_1239, mw_29, mw_104, mw_1240, wn1_RX7, wn2_RX7, wpd_41⟩
theorem wd_X7_wears : wd_V yX7_wears cX7_wears 3 none 2 := ⟨mw_1355, mw_51, mw_104, mw_1356, wn1_RX7, wn2_RX7, wpd_1⟩
theorem wd_X7_wide : wd_V yX7_wide cX7_wide 1 (some .int) 0 := ⟨mw_1222, mw_26, mw_104, mw_1223, wn1_RX7, wn2_RX7, wpd_4⟩
theorem wd_X7_wornOf : wd_V yX7_wornOf cX7_wornOf 2 (some .long) 1 := ⟨mw_1263, mw_35, mw_104, mw_1264, wn1_RX7, wn2_RX7, wpd_42⟩
abbrev Bd : Type := (Nat → Int32) × (Nat → Nat → Int32) × (Nat → Int64) × Nat × (Nat → Int32)
abbrev Tp : Type := (Nat → Int32) × (Nat → Int32)
abbrev Mo : Type := (Nat → Int32) × (Nat → Nat → Int32)
abbrev Pg : Type := (Nat → Int32) × (Nat → Nat → Int32)
abbrev Md : Type := (Nat → Int32) × Int64 × (Nat → Nat → Int64) × (Nat → Nat → Int32)
def bd_w (a : Nat → Nat) (q : Nat → ClassId) (s : Bd) : va_W := [((a 0), .inr (0, [.int (s.1 0), .int (s.1 1), .int (s.1 2), .int (s.1 3), .int (s.1 4), .int (s.1 5), .ref (a 1), .ref (a 2), .ref (a 3), .ref (a 4), .ref (a 5), .ref (a 6), .ref (a 7), .ref (a 8), .ref (a 9), .ref (a 10), .ref (a 11), .ref (a 12)])), ((a 1), .inl (q 0, 4, .inl (s.2.1 0))), ((a 2), .inl (q 0, 4, .inl (s.2.1 1))), ((a 3), .inl (q 0, 160, .inl (s.2.1 2))), ((a 4), .inl (q 0, 40, .inl (s.2.1 3))), ((a 5), .inl (q 0, 40, .inl (s.2.1 4))), ((a 6), .inl (q 0, 40, .inl (s.2.1 5))), ((a 7), .inl (q 0, 40, .inl (s.2.1 6))), ((a 8), .inl (q 0, 40, .inl (s.2.1 7))), ((a 9), .inl (q 0, 40, .inl (s.2.1 8))), ((a 10), .inl (q 0, 40, .inl (s.2.1 9))), ((a 11), .inl (q 1, 40, .inr (.inl s.2.2.1))), ((a 12), .inl (q 0, s.2.2.2.1, .inl s.2.2.2.2))]
def tp_w (a : Nat → Nat) (q : Nat → ClassId) (s : Tp) : va_W := [((a 0), .inr (4, [.ref (a 1), .int (s.1 0), .int (s.1 1), .int (s.1 2), .int (s.1 3), .int (s.1 4), .int (s.1 5)])), ((a 1), .inl (q 0, 400, .inl s.2))]
def mo_w (a : Nat → Nat) (q : Nat → ClassId) (s : Mo) : va_W := [((a 0), .inr (1, [.ref (a 1), .ref (a 2), .ref (a 3), .int (s.1 0), .int (s.1 1), .int (s.1 2), .int (s.1 3), .int (s.1 4), .int (s.1 5), .int (s.1 6), .int (s.1 7), .int (s.1 8)])), ((a 1), .inl (q 0, 40, .inl (s.2 0))), ((a 2), .inl (q 0, 40, .inl (s.2 1))), ((a 3), .inl (q 0, 40, .inl (s.2 2)))]
def pg_w (a : Nat → Nat) (q : Nat → ClassId) (s : Pg) : va_W := [((a 0), .inr (3, [.ref (a 1), .ref (a 2), .ref (a 3), .ref (a 4), .ref (a 5), .ref (a 6), .ref (a 7), .int (s.1 0), .int (s.1 1), .int (s.1 2)])), ((a 1), .inl (q 0, 80, .inl (s.2 0))), ((a 2), .inl (q 0, 80, .inl (s.2 1))), ((a 3), .inl (q 0, 80, .inl (s.2 2))), ((a 4), .inl (q 0, 80, .inl (s.2 3))), ((a 5), .inl (q 0, 80, .inl (s.2 4))), ((a 6), .inl (q 0, 3, .inl (s.2 5))), ((a 7), .inl (q 0, 3, .inl (s.2 6)))]
def md_v (a : Nat → Nat) (q : Nat → ClassId) (s : Md) : va_W := [((a 0), .inr (6, [.ref (a 1), .ref (a 2), .int (s.1 0), .ref (a 3), .ref (a 5), .ref (a 4), .long s.2.1, .int (s.1 1), .int (s.1 2), .ref (a 6), .int (s.1 3), .int (s.1 4), .ref (a 7), .int (s.1 5), .int (s.1 6), .int (s.1 7), .int (s.1 8), .int (s.1 9), .int (s.1 10), .int (s.1 11), .int (s.1 12), .int (s.1 13), .int (s.1 14)])), ((a 1), .inl (q 1, 6896, .inr (.inl (s.2.2.1 0)))), ((a 2), .inl (q 1, 68960, .inr (.inl (s.2.2.1 1)))), ((a 3), .inl (q 1, 13792, .inr (.inl (s.2.2.1 2)))), ((a 4), .inl (q 1, 6896, .inr (.inl (s.2.2.1 3)))), ((a 5), .inl (q 3, 2, .inl (s.2.2.2 0))), ((a 6), .inl (q 0, 40, .inl (s.2.2.2 1))), ((a 7), .inl (q 2, 400, .inl (s.2.2.2 2)))]
def fo_w (h t b r m g p s : Nat) : va_W := [(h, .inr (5, [.ref t, .ref b, .ref r, .ref m, .ref g, .ref p, .ref s]))]

theorem rb_ok {α β : Type} {m : Decoder α} {f : α → Decoder β} {c : ByteArray} {p q : Nat} {a : α} (h : m c p = .ok (a, q)) : (m >>= f) c p = f a c q := by
  show Except.bind (m c p) _ = _
  rw [h]
  rfl
theorem dec_ok {c : ByteArray} {p q : Nat} {i : Instr} (h : Decoder.instr p c p = .ok (i, q)) : decode c p = .ok (i, q - p) := by
  unfold decode Reader.runAt
  show Except.bind (Decoder.instr p c p) _ = _
  rw [h]
  rfl
def pre_b : List UInt8 → List Nat → Bool
  | _, [] => true
  | [], _ :: _ => false
  | x :: l, b :: r => Nat.beq x.toNat b && pre_b l r
theorem u1_ok {c : ByteArray} {p b : Nat} {l : List UInt8} {r : List Nat} (hl : c.data.toList.drop p = l) (h : pre_b l (b :: r) = true) : (Reader.u1 : Decoder Nat) c p = .ok (b, p + 1) ∧ pre_b (c.data.toList.drop (p + 1)) r = true := by
  cases l with
  | nil => cases h
  | cons x t =>
    have h' : (Nat.beq x.toNat b && pre_b t r) = true := h
    obtain ⟨h1, h2⟩ := Bool.and_eq_true_iff.mp h'
    have e1 : x.toNat = b := Nat.eq_of_beq_eq_true h1
    have hp : p < c.data.toList.length := by
      apply Nat.lt_of_not_le
      intro g
      rw [List.drop_eq_nil_of_le g] at hl
      cases hl
    have hd := List.drop_eq_getElem_cons hp
    rw [hd] at hl
    injection hl with q1 q2
    refine ⟨?_, by rw [q2]; exact h2⟩
    have hs : p < c.size := hp
    have ex : c[p] = x := q1
    show (dite (p < c.size) (fun h => ((do set (p + 1); pure (c[p]'h).toNat) : Decoder Nat)) (fun _ => throw (HasTruncated.truncated p))) c p = _
    rw [dif_pos hs]
    show (Except.ok ((c[p]'hs).toNat, p + 1) : Except DecodeError (Nat × Nat)) = _
    rw [ex, e1]
theorem u2_ok {c : ByteArray} {p a b : Nat} {r : List Nat} (h : pre_b (c.data.toList.drop p) (a :: b :: r) = true) : (Reader.u2 : Decoder Nat) c p = .ok (a * 256 + b, p + 2) := by
  obtain ⟨h1, h2⟩ := u1_ok rfl h
  obtain ⟨h3, _⟩ := u1_ok rfl h2
  exact (rb_ok h1).trans ((rb_ok h3).trans rfl)
theorem s2_ok {c : ByteArray} {p a b : Nat} {r : List Nat} (h : pre_b (c.data.toList.drop p) (a :: b :: r) = true) : (Reader.s2 : Decoder Int) c p = .ok (Reader.signed 16 (a * 256 + b), p + 2) := by
  have e := u2_ok h
  show Except.bind ((Reader.u2 : Decoder Nat) c p) _ = _
  rw [e]
  rfl
theorem s1_ok {c : ByteArray} {p b : Nat} {l : List UInt8} {r : List Nat} (hl : c.data.toList.drop p = l) (h : pre_b l (b :: r) = true) : (Reader.s1 : Decoder Int) c p = .ok (Reader.signed 8 b, p + 1) ∧ pre_b (c.data.toList.drop (p + 1)) r = true := by
  obtain ⟨h1, h2⟩ := u1_ok hl h
  refine ⟨?_, h2⟩
  show Except.bind ((Reader.u1 : Decoder Nat) c p) _ = _
  rw [h1]
  rfl
theorem oq_n {c : ByteArray} {p b : Nat} {i : Instr} (n : Nat) (h : (Reader.u1 : Decoder Nat) c p = .ok (b, p + 1)) (g : (Reader.u1 : Decoder Nat) c p = .ok (b, p + 1) → Decoder.instr p c p = .ok (i, p + n)) : decode c p = .ok (i, n) := by
  rw [dec_ok (g h), Nat.add_sub_cancel_left]
theorem oq_0 {c : ByteArray} {p b : Nat} {i : Instr} (h : (Reader.u1 : Decoder Nat) c p = .ok (b, p + 1)) (g : (Reader.u1 : Decoder Nat) c p = .ok (b, p + 1) → Decoder.instr p c p = .ok (i, p + 1)) : decode c p = .ok (i, 1) := oq_n 1 h g
theorem oq_2 {c : ByteArray} {p : Nat} (h : (pre_b (List.drop p c.data.toList) [2]) = true) : decode c p = .ok (.iconst (-1), 1) := oq_0 (u1_ok rfl h).1 (fun e => (rb_ok e).trans rfl)
theorem oq_3 {c : ByteArray} {p : Nat} (h : (pre_b (List.drop p c.data.toList) [3]) = true) : decode c p = .ok (.iconst 0, 1) := oq_0 (u1_ok rfl h).1 (fun e => (rb_ok e).trans rfl)
theorem oq_4 {c : ByteArray} {p : Nat} (h : (pre_b (List.drop p c.data.toList) [4]) = true) : decode c p = .ok (.iconst 1, 1) := oq_0 (u1_ok rfl h).1 (fun e => (rb_ok e).trans rfl)
theorem oq_5 {c : ByteArray} {p : Nat} (h : (pre_b (List.drop p c.data.toList) [5]) = true) : decode c p = .ok (.iconst 2, 1) := oq_0 (u1_ok rfl h).1 (fun e => (rb_ok e).trans rfl)
theorem oq_6 {c : ByteArray} {p : Nat} (h : (pre_b (List.drop p c.data.toList) [6]) = true) : decode c p = .ok (.iconst 3, 1) := oq_0 (u1_ok rfl h).1 (fun e => (rb_ok e).trans rfl)
theorem oq_7 {c : ByteArray} {p : Nat} (h : (pre_b (List.drop p c.data.toList) [7]) = true) : decode c p = .ok (.iconst 4, 1) := oq_0 (u1_ok rfl h).1 (fun e => (rb_ok e).trans rfl)
theorem oq_8 {c : ByteArray} {p : Nat} (h : (pre_b (List.drop p c.data.toList) [8]) = true) : decode c p = .ok (.iconst 5, 1) := oq_0 (u1_ok rfl h).1 (fun e => (rb_ok e).trans rfl)
theorem oq_9 {c : ByteArray} {p : Nat} (h : (pre_b (List.drop p c.data.toList) [9]) = true) : decode c p = .ok (.lconst 0, 1) := oq_0 (u1_ok rfl h).1 (fun e => (rb_ok e).trans rfl)
theorem oq_10 {c : ByteArray} {p : Nat} (h : (pre_b (List.drop p c.data.toList) [10]) = true) : decode c p = .ok (.lconst 1, 1) := oq_0 (u1_ok rfl h).1 (fun e => (rb_ok e).trans rfl)
theorem oq_16 {c : ByteArray} {p a : Nat} {k0 : Int} (h : (pre_b (List.drop p c.data.toList) [16, a] && decide (Reader.signed 8 (a) = k0)) = true) : decode c p = .ok (.bipush k0, 2) := by
  obtain ⟨y0, g0⟩ := Bool.and_eq_true_iff.mp h
  have g0 := of_decide_eq_true g0
  subst g0
  obtain ⟨h1, h2⟩ := u1_ok rfl y0
  obtain ⟨f0, h3⟩ := s1_ok rfl h2
  exact oq_n 2 h1 (fun e => (rb_ok e).trans ((rb_ok f0).trans rfl))
theorem oq_17 {c : ByteArray} {p a b : Nat} {k0 : Int} (h : (pre_b (List.drop p c.data.toList) [17, a, b] && decide (Reader.signed 16 (a * 256 + b) = k0)) = true) : decode c p = .ok (.sipush k0, 3) := by
  obtain ⟨y0, g0⟩ := Bool.and_eq_true_iff.mp h
  have g0 := of_decide_eq_true g0
  subst g0
  obtain ⟨h1, h2⟩ := u1_ok rfl y0
  exact oq_n 3 h1 (fun e => (rb_ok e).trans ((rb_ok (s2_ok h2)).trans rfl))
theorem oq_18 {c : ByteArray} {p a : Nat} {k0 : Nat} (h : (pre_b (List.drop p c.data.toList) [18, a] && Nat.beq (a) k0) = true) : decode c p = .ok (.ldc k0, 2) := by
  obtain ⟨y0, g0⟩ := Bool.and_eq_true_iff.mp h
  have g0 := Nat.eq_of_beq_eq_true g0
  subst g0
  obtain ⟨h1, h2⟩ := u1_ok rfl y0
  obtain ⟨f0, h3⟩ := u1_ok rfl h2
  exact oq_n 2 h1 (fun e => (rb_ok e).trans ((rb_ok f0).trans rfl))
theorem oq_19 {c : ByteArray} {p a b : Nat} {k0 : Nat} (h : (pre_b (List.drop p c.data.toList) [19, a, b] && Nat.beq (a * 256 + b) k0) = true) : decode c p = .ok (.ldc_w k0, 3) := by
  obtain ⟨y0, g0⟩ := Bool.and_eq_true_iff.mp h
  have g0 := Nat.eq_of_beq_eq_true g0
  subst g0
  obtain ⟨h1, h2⟩ := u1_ok rfl y0
  exact oq_n 3 h1 (fun e => (rb_ok e).trans ((rb_ok (u2_ok h2)).trans rfl))
theorem oq_20 {c : ByteArray} {p a b : Nat} {k0 : Nat} (h : (pre_b (List.drop p c.data.toList) [20, a, b] && Nat.beq (a * 256 + b) k0) = true) : decode c p = .ok (.ldc2_w k0, 3) := by
  obtain ⟨y0, g0⟩ := Bool.and_eq_true_iff.mp h
  have g0 := Nat.eq_of_beq_eq_true g0
  subst g0
  obtain ⟨h1, h2⟩ := u1_ok rfl y0
  exact oq_n 3 h1 (fun e => (rb_ok e).trans ((rb_ok (u2_ok h2)).trans rfl))
theorem oq_21 {c : ByteArray} {p a : Nat} {k0 : Nat} (h : (pre_b (List.drop p c.data.toList) [21, a] && Nat.beq (a) k0) = true) : decode c p = .ok (.iload k0, 2) := by
  obtain ⟨y0, g0⟩ := Bool.and_eq_true_iff.mp h
  have g0 := Nat.eq_of_beq_eq_true g0
  subst g0
  obtain ⟨h1, h2⟩ := u1_ok rfl y0
  obtain ⟨f0, h3⟩ := u1_ok rfl h2
  exact oq_n 2 h1 (fun e => (rb_ok e).trans ((rb_ok f0).trans rfl))
theorem oq_22 {c : ByteArray} {p a : Nat} {k0 : Nat} (h : (pre_b (List.drop p c.data.toList) [22, a] && Nat.beq (a) k0) = true) : decode c p = .ok (.lload k0, 2) := by
  obtain ⟨y0, g0⟩ := Bool.and_eq_true_iff.mp h
  have g0 := Nat.eq_of_beq_eq_true g0
  subst g0
  obtain ⟨h1, h2⟩ := u1_ok rfl y0
  obtain ⟨f0, h3⟩ := u1_ok rfl h2
  exact oq_n 2 h1 (fun e => (rb_ok e).trans ((rb_ok f0).trans rfl))
theorem oq_26 {c : ByteArray} {p : Nat} (h : (pre_b (List.drop p c.data.toList) [26]) = true) : decode c p = .ok (.iload_n 0, 1) := oq_0 (u1_ok rfl h).1 (fun e => (rb_ok e).trans rfl)
theorem oq_27 {c : ByteArray} {p : Nat} (h : (pre_b (List.drop p c.data.toList) [27]) = true) : decode c p = .ok (.iload_n 1, 1) := oq_0 (u1_ok rfl h).1 (fun e => (rb_ok e).trans rfl)
theorem oq_28 {c : ByteArray} {p : Nat} (h : (pre_b (List.drop p c.data.toList) [28]) = true) : decode c p = .ok (.iload_n 2, 1) := oq_0 (u1_ok rfl h).1 (fun e => (rb_ok e).trans rfl)
theorem oq_29 {c : ByteArray} {p : Nat} (h : (pre_b (List.drop p c.data.toList) [29]) = true) : decode c p = .ok (.iload_n 3, 1) := oq_0 (u1_ok rfl h).1 (fun e => (rb_ok e).trans rfl)
theorem oq_30 {c : ByteArray} {p : Nat} (h : (pre_b (List.drop p c.data.toList) [30]) = true) : decode c p = .ok (.lload_n 0, 1) := oq_0 (u1_ok rfl h).1 (fun e => (rb_ok e).trans rfl)
theorem oq_31 {c : ByteArray} {p : Nat} (h : (pre_b (List.drop p c.data.toList) [31]) = true) : decode c p = .ok (.lload_n 1, 1) := oq_0 (u1_ok rfl h).1 (fun e => (rb_ok e).trans rfl)
theorem oq_32 {c : ByteArray} {p : Nat} (h : (pre_b (List.drop p c.data.toList) [32]) = true) : decode c p = .ok (.lload_n 2, 1) := oq_0 (u1_ok rfl h).1 (fun e => (rb_ok e).trans rfl)
theorem oq_33 {c : ByteArray} {p : Nat} (h : (pre_b (List.drop p c.data.toList) [33]) = true) : decode c p = .ok (.lload_n 3, 1) := oq_0 (u1_ok rfl h).1 (fun e => (rb_ok e).trans rfl)
theorem oq_42 {c : ByteArray} {p : Nat} (h : (pre_b (List.drop p c.data.toList) [42]) = true) : decode c p = .ok (.aload_n 0, 1) := oq_0 (u1_ok rfl h).1 (fun e => (rb_ok e).trans rfl)
theorem oq_43 {c : ByteArray} {p : Nat} (h : (pre_b (List.drop p c.data.toList) [43]) = true) : decode c p = .ok (.aload_n 1, 1) := oq_0 (u1_ok rfl h).1 (fun e => (rb_ok e).trans rfl)
theorem oq_44 {c : ByteArray} {p : Nat} (h : (pre_b (List.drop p c.data.toList) [44]) = true) : decode c p = .ok (.aload_n 2, 1) := oq_0 (u1_ok rfl h).1 (fun e => (rb_ok e).trans rfl)
theorem oq_45 {c : ByteArray} {p : Nat} (h : (pre_b (List.drop p c.data.toList) [45]) = true) : decode c p = .ok (.aload_n 3, 1) := oq_0 (u1_ok rfl h).1 (fun e => (rb_ok e).trans rfl)
theorem oq_46 {c : ByteArray} {p : Nat} (h : (pre_b (List.drop p c.data.toList) [46]) = true) : decode c p = .ok (.iaload, 1) := oq_0 (u1_ok rfl h).1 (fun e => (rb_ok e).trans rfl)
theorem oq_47 {c : ByteArray} {p : Nat} (h : (pre_b (List.drop p c.data.toList) [47]) = true) : decode c p = .ok (.laload, 1) := oq_0 (u1_ok rfl h).1 (fun e => (rb_ok e).trans rfl)
theorem oq_50 {c : ByteArray} {p : Nat} (h : (pre_b (List.drop p c.data.toList) [50]) = true) : decode c p = .ok (.aaload, 1) := oq_0 (u1_ok rfl h).1 (fun e => (rb_ok e).trans rfl)
theorem oq_51 {c : ByteArray} {p : Nat} (h : (pre_b (List.drop p c.data.toList) [51]) = true) : decode c p = .ok (.baload, 1) := oq_0 (u1_ok rfl h).1 (fun e => (rb_ok e).trans rfl)
theorem oq_54 {c : ByteArray} {p a : Nat} {k0 : Nat} (h : (pre_b (List.drop p c.data.toList) [54, a] && Nat.beq (a) k0) = true) : decode c p = .ok (.istore k0, 2) := by
  obtain ⟨y0, g0⟩ := Bool.and_eq_true_iff.mp h
  have g0 := Nat.eq_of_beq_eq_true g0
  subst g0
  obtain ⟨h1, h2⟩ := u1_ok rfl y0
  obtain ⟨f0, h3⟩ := u1_ok rfl h2
  exact oq_n 2 h1 (fun e => (rb_ok e).trans ((rb_ok f0).trans rfl))
theorem oq_55 {c : ByteArray} {p a : Nat} {k0 : Nat} (h : (pre_b (List.drop p c.data.toList) [55, a] && Nat.beq (a) k0) = true) : decode c p = .ok (.lstore k0, 2) := by
  obtain ⟨y0, g0⟩ := Bool.and_eq_true_iff.mp h
  have g0 := Nat.eq_of_beq_eq_true g0
  subst g0
  obtain ⟨h1, h2⟩ := u1_ok rfl y0
  obtain ⟨f0, h3⟩ := u1_ok rfl h2
  exact oq_n 2 h1 (fun e => (rb_ok e).trans ((rb_ok f0).trans rfl))
theorem oq_60 {c : ByteArray} {p : Nat} (h : (pre_b (List.drop p c.data.toList) [60]) = true) : decode c p = .ok (.istore_n 1, 1) := oq_0 (u1_ok rfl h).1 (fun e => (rb_ok e).trans rfl)
theorem oq_61 {c : ByteArray} {p : Nat} (h : (pre_b (List.drop p c.data.toList) [61]) = true) : decode c p = .ok (.istore_n 2, 1) := oq_0 (u1_ok rfl h).1 (fun e => (rb_ok e).trans rfl)
theorem oq_62 {c : ByteArray} {p : Nat} (h : (pre_b (List.drop p c.data.toList) [62]) = true) : decode c p = .ok (.istore_n 3, 1) := oq_0 (u1_ok rfl h).1 (fun e => (rb_ok e).trans rfl)
theorem oq_63 {c : ByteArray} {p : Nat} (h : (pre_b (List.drop p c.data.toList) [63]) = true) : decode c p = .ok (.lstore_n 0, 1) := oq_0 (u1_ok rfl h).1 (fun e => (rb_ok e).trans rfl)
theorem oq_64 {c : ByteArray} {p : Nat} (h : (pre_b (List.drop p c.data.toList) [64]) = true) : decode c p = .ok (.lstore_n 1, 1) := oq_0 (u1_ok rfl h).1 (fun e => (rb_ok e).trans rfl)
theorem oq_65 {c : ByteArray} {p : Nat} (h : (pre_b (List.drop p c.data.toList) [65]) = true) : decode c p = .ok (.lstore_n 2, 1) := oq_0 (u1_ok rfl h).1 (fun e => (rb_ok e).trans rfl)
theorem oq_76 {c : ByteArray} {p : Nat} (h : (pre_b (List.drop p c.data.toList) [76]) = true) : decode c p = .ok (.astore_n 1, 1) := oq_0 (u1_ok rfl h).1 (fun e => (rb_ok e).trans rfl)
theorem oq_77 {c : ByteArray} {p : Nat} (h : (pre_b (List.drop p c.data.toList) [77]) = true) : decode c p = .ok (.astore_n 2, 1) := oq_0 (u1_ok rfl h).1 (fun e => (rb_ok e).trans rfl)
theorem oq_79 {c : ByteArray} {p : Nat} (h : (pre_b (List.drop p c.data.toList) [79]) = true) : decode c p = .ok (.iastore, 1) := oq_0 (u1_ok rfl h).1 (fun e => (rb_ok e).trans rfl)
theorem oq_80 {c : ByteArray} {p : Nat} (h : (pre_b (List.drop p c.data.toList) [80]) = true) : decode c p = .ok (.lastore, 1) := oq_0 (u1_ok rfl h).1 (fun e => (rb_ok e).trans rfl)
theorem oq_83 {c : ByteArray} {p : Nat} (h : (pre_b (List.drop p c.data.toList) [83]) = true) : decode c p = .ok (.aastore, 1) := oq_0 (u1_ok rfl h).1 (fun e => (rb_ok e).trans rfl)
theorem oq_84 {c : ByteArray} {p : Nat} (h : (pre_b (List.drop p c.data.toList) [84]) = true) : decode c p = .ok (.bastore, 1) := oq_0 (u1_ok rfl h).1 (fun e => (rb_ok e).trans rfl)
theorem oq_87 {c : ByteArray} {p : Nat} (h : (pre_b (List.drop p c.data.toList) [87]) = true) : decode c p = .ok (.pop, 1) := oq_0 (u1_ok rfl h).1 (fun e => (rb_ok e).trans rfl)
theorem oq_88 {c : ByteArray} {p : Nat} (h : (pre_b (List.drop p c.data.toList) [88]) = true) : decode c p = .ok (.pop2, 1) := oq_0 (u1_ok rfl h).1 (fun e => (rb_ok e).trans rfl)
theorem oq_89 {c : ByteArray} {p : Nat} (h : (pre_b (List.drop p c.data.toList) [89]) = true) : decode c p = .ok (.dup, 1) := oq_0 (u1_ok rfl h).1 (fun e => (rb_ok e).trans rfl)
theorem oq_92 {c : ByteArray} {p : Nat} (h : (pre_b (List.drop p c.data.toList) [92]) = true) : decode c p = .ok (.dup2, 1) := oq_0 (u1_ok rfl h).1 (fun e => (rb_ok e).trans rfl)
theorem oq_96 {c : ByteArray} {p : Nat} (h : (pre_b (List.drop p c.data.toList) [96]) = true) : decode c p = .ok (.iadd, 1) := oq_0 (u1_ok rfl h).1 (fun e => (rb_ok e).trans rfl)
theorem oq_97 {c : ByteArray} {p : Nat} (h : (pre_b (List.drop p c.data.toList) [97]) = true) : decode c p = .ok (.ladd, 1) := oq_0 (u1_ok rfl h).1 (fun e => (rb_ok e).trans rfl)
theorem oq_100 {c : ByteArray} {p : Nat} (h : (pre_b (List.drop p c.data.toList) [100]) = true) : decode c p = .ok (.isub, 1) := oq_0 (u1_ok rfl h).1 (fun e => (rb_ok e).trans rfl)
theorem oq_101 {c : ByteArray} {p : Nat} (h : (pre_b (List.drop p c.data.toList) [101]) = true) : decode c p = .ok (.lsub, 1) := oq_0 (u1_ok rfl h).1 (fun e => (rb_ok e).trans rfl)
theorem oq_104 {c : ByteArray} {p : Nat} (h : (pre_b (List.drop p c.data.toList) [104]) = true) : decode c p = .ok (.imul, 1) := oq_0 (u1_ok rfl h).1 (fun e => (rb_ok e).trans rfl)
theorem oq_105 {c : ByteArray} {p : Nat} (h : (pre_b (List.drop p c.data.toList) [105]) = true) : decode c p = .ok (.lmul, 1) := oq_0 (u1_ok rfl h).1 (fun e => (rb_ok e).trans rfl)
theorem oq_108 {c : ByteArray} {p : Nat} (h : (pre_b (List.drop p c.data.toList) [108]) = true) : decode c p = .ok (.idiv, 1) := oq_0 (u1_ok rfl h).1 (fun e => (rb_ok e).trans rfl)
theorem oq_109 {c : ByteArray} {p : Nat} (h : (pre_b (List.drop p c.data.toList) [109]) = true) : decode c p = .ok (.ldiv, 1) := oq_0 (u1_ok rfl h).1 (fun e => (rb_ok e).trans rfl)
theorem oq_112 {c : ByteArray} {p : Nat} (h : (pre_b (List.drop p c.data.toList) [112]) = true) : decode c p = .ok (.irem, 1) := oq_0 (u1_ok rfl h).1 (fun e => (rb_ok e).trans rfl)
theorem oq_120 {c : ByteArray} {p : Nat} (h : (pre_b (List.drop p c.data.toList) [120]) = true) : decode c p = .ok (.ishl, 1) := oq_0 (u1_ok rfl h).1 (fun e => (rb_ok e).trans rfl)
theorem oq_121 {c : ByteArray} {p : Nat} (h : (pre_b (List.drop p c.data.toList) [121]) = true) : decode c p = .ok (.lshl, 1) := oq_0 (u1_ok rfl h).1 (fun e => (rb_ok e).trans rfl)
theorem oq_122 {c : ByteArray} {p : Nat} (h : (pre_b (List.drop p c.data.toList) [122]) = true) : decode c p = .ok (.ishr, 1) := oq_0 (u1_ok rfl h).1 (fun e => (rb_ok e).trans rfl)
theorem oq_123 {c : ByteArray} {p : Nat} (h : (pre_b (List.drop p c.data.toList) [123]) = true) : decode c p = .ok (.lshr, 1) := oq_0 (u1_ok rfl h).1 (fun e => (rb_ok e).trans rfl)
theorem oq_125 {c : ByteArray} {p : Nat} (h : (pre_b (List.drop p c.data.toList) [125]) = true) : decode c p = .ok (.lushr, 1) := oq_0 (u1_ok rfl h).1 (fun e => (rb_ok e).trans rfl)
theorem oq_126 {c : ByteArray} {p : Nat} (h : (pre_b (List.drop p c.data.toList) [126]) = true) : decode c p = .ok (.iand, 1) := oq_0 (u1_ok rfl h).1 (fun e => (rb_ok e).trans rfl)
theorem oq_127 {c : ByteArray} {p : Nat} (h : (pre_b (List.drop p c.data.toList) [127]) = true) : decode c p = .ok (.land, 1) := oq_0 (u1_ok rfl h).1 (fun e => (rb_ok e).trans rfl)
theorem oq_128 {c : ByteArray} {p : Nat} (h : (pre_b (List.drop p c.data.toList) [128]) = true) : decode c p = .ok (.ior, 1) := oq_0 (u1_ok rfl h).1 (fun e => (rb_ok e).trans rfl)
theorem oq_129 {c : ByteArray} {p : Nat} (h : (pre_b (List.drop p c.data.toList) [129]) = true) : decode c p = .ok (.lor, 1) := oq_0 (u1_ok rfl h).1 (fun e => (rb_ok e).trans rfl)
theorem oq_131 {c : ByteArray} {p : Nat} (h : (pre_b (List.drop p c.data.toList) [131]) = true) : decode c p = .ok (.lxor, 1) := oq_0 (u1_ok rfl h).1 (fun e => (rb_ok e).trans rfl)
theorem oq_132 {c : ByteArray} {p a b : Nat} {k0 : Nat} {k1 : Int} (h : (pre_b (List.drop p c.data.toList) [132, a, b] && Nat.beq (a) k0 && decide (Reader.signed 8 (b) = k1)) = true) : decode c p = .ok (.iinc k0 k1, 3) := by
  obtain ⟨y1, g1⟩ := Bool.and_eq_true_iff.mp h
  have g1 := of_decide_eq_true g1
  obtain ⟨y0, g0⟩ := Bool.and_eq_true_iff.mp y1
  have g0 := Nat.eq_of_beq_eq_true g0
  subst g0
  subst g1
  obtain ⟨h1, h2⟩ := u1_ok rfl y0
  obtain ⟨f0, h3⟩ := u1_ok rfl h2
  obtain ⟨f1, h4⟩ := s1_ok rfl h3
  exact oq_n 3 h1 (fun e => (rb_ok e).trans ((rb_ok f0).trans ((rb_ok f1).trans rfl)))
theorem oq_133 {c : ByteArray} {p : Nat} (h : (pre_b (List.drop p c.data.toList) [133]) = true) : decode c p = .ok (.i2l, 1) := oq_0 (u1_ok rfl h).1 (fun e => (rb_ok e).trans rfl)
theorem oq_136 {c : ByteArray} {p : Nat} (h : (pre_b (List.drop p c.data.toList) [136]) = true) : decode c p = .ok (.l2i, 1) := oq_0 (u1_ok rfl h).1 (fun e => (rb_ok e).trans rfl)
theorem oq_145 {c : ByteArray} {p : Nat} (h : (pre_b (List.drop p c.data.toList) [145]) = true) : decode c p = .ok (.i2b, 1) := oq_0 (u1_ok rfl h).1 (fun e => (rb_ok e).trans rfl)
theorem oq_146 {c : ByteArray} {p : Nat} (h : (pre_b (List.drop p c.data.toList) [146]) = true) : decode c p = .ok (.i2c, 1) := oq_0 (u1_ok rfl h).1 (fun e => (rb_ok e).trans rfl)
theorem oq_148 {c : ByteArray} {p : Nat} (h : (pre_b (List.drop p c.data.toList) [148]) = true) : decode c p = .ok (.lcmp, 1) := oq_0 (u1_ok rfl h).1 (fun e => (rb_ok e).trans rfl)
theorem oq_153 {c : ByteArray} {p a b : Nat} {k0 : Int} (h : (pre_b (List.drop p c.data.toList) [153, a, b] && decide (Reader.signed 16 (a * 256 + b) = k0)) = true) : decode c p = .ok (.ifCond .eq k0, 3) := by
  obtain ⟨y0, g0⟩ := Bool.and_eq_true_iff.mp h
  have g0 := of_decide_eq_true g0
  subst g0
  obtain ⟨h1, h2⟩ := u1_ok rfl y0
  exact oq_n 3 h1 (fun e => (rb_ok e).trans ((rb_ok (s2_ok h2)).trans rfl))
theorem oq_154 {c : ByteArray} {p a b : Nat} {k0 : Int} (h : (pre_b (List.drop p c.data.toList) [154, a, b] && decide (Reader.signed 16 (a * 256 + b) = k0)) = true) : decode c p = .ok (.ifCond .ne k0, 3) := by
  obtain ⟨y0, g0⟩ := Bool.and_eq_true_iff.mp h
  have g0 := of_decide_eq_true g0
  subst g0
  obtain ⟨h1, h2⟩ := u1_ok rfl y0
  exact oq_n 3 h1 (fun e => (rb_ok e).trans ((rb_ok (s2_ok h2)).trans rfl))
theorem oq_155 {c : ByteArray} {p a b : Nat} {k0 : Int} (h : (pre_b (List.drop p c.data.toList) [155, a, b] && decide (Reader.signed 16 (a * 256 + b) = k0)) = true) : decode c p = .ok (.ifCond .lt k0, 3) := by
  obtain ⟨y0, g0⟩ := Bool.and_eq_true_iff.mp h
  have g0 := of_decide_eq_true g0
  subst g0
  obtain ⟨h1, h2⟩ := u1_ok rfl y0
  exact oq_n 3 h1 (fun e => (rb_ok e).trans ((rb_ok (s2_ok h2)).trans rfl))
theorem oq_156 {c : ByteArray} {p a b : Nat} {k0 : Int} (h : (pre_b (List.drop p c.data.toList) [156, a, b] && decide (Reader.signed 16 (a * 256 + b) = k0)) = true) : decode c p = .ok (.ifCond .ge k0, 3) := by
  obtain ⟨y0, g0⟩ := Bool.and_eq_true_iff.mp h
  have g0 := of_decide_eq_true g0
  subst g0
  obtain ⟨h1, h2⟩ := u1_ok rfl y0
  exact oq_n 3 h1 (fun e => (rb_ok e).trans ((rb_ok (s2_ok h2)).trans rfl))
theorem oq_157 {c : ByteArray} {p a b : Nat} {k0 : Int} (h : (pre_b (List.drop p c.data.toList) [157, a, b] && decide (Reader.signed 16 (a * 256 + b) = k0)) = true) : decode c p = .ok (.ifCond .gt k0, 3) := by
  obtain ⟨y0, g0⟩ := Bool.and_eq_true_iff.mp h
  have g0 := of_decide_eq_true g0
  subst g0
  obtain ⟨h1, h2⟩ := u1_ok rfl y0
  exact oq_n 3 h1 (fun e => (rb_ok e).trans ((rb_ok (s2_ok h2)).trans rfl))
theorem oq_158 {c : ByteArray} {p a b : Nat} {k0 : Int} (h : (pre_b (List.drop p c.data.toList) [158, a, b] && decide (Reader.signed 16 (a * 256 + b) = k0)) = true) : decode c p = .ok (.ifCond .le k0, 3) := by
  obtain ⟨y0, g0⟩ := Bool.and_eq_true_iff.mp h
  have g0 := of_decide_eq_true g0
  subst g0
  obtain ⟨h1, h2⟩ := u1_ok rfl y0
  exact oq_n 3 h1 (fun e => (rb_ok e).trans ((rb_ok (s2_ok h2)).trans rfl))
theorem oq_159 {c : ByteArray} {p a b : Nat} {k0 : Int} (h : (pre_b (List.drop p c.data.toList) [159, a, b] && decide (Reader.signed 16 (a * 256 + b) = k0)) = true) : decode c p = .ok (.if_icmp .eq k0, 3) := by
  obtain ⟨y0, g0⟩ := Bool.and_eq_true_iff.mp h
  have g0 := of_decide_eq_true g0
  subst g0
  obtain ⟨h1, h2⟩ := u1_ok rfl y0
  exact oq_n 3 h1 (fun e => (rb_ok e).trans ((rb_ok (s2_ok h2)).trans rfl))
theorem oq_160 {c : ByteArray} {p a b : Nat} {k0 : Int} (h : (pre_b (List.drop p c.data.toList) [160, a, b] && decide (Reader.signed 16 (a * 256 + b) = k0)) = true) : decode c p = .ok (.if_icmp .ne k0, 3) := by
  obtain ⟨y0, g0⟩ := Bool.and_eq_true_iff.mp h
  have g0 := of_decide_eq_true g0
  subst g0
  obtain ⟨h1, h2⟩ := u1_ok rfl y0
  exact oq_n 3 h1 (fun e => (rb_ok e).trans ((rb_ok (s2_ok h2)).trans rfl))
theorem oq_161 {c : ByteArray} {p a b : Nat} {k0 : Int} (h : (pre_b (List.drop p c.data.toList) [161, a, b] && decide (Reader.signed 16 (a * 256 + b) = k0)) = true) : decode c p = .ok (.if_icmp .lt k0, 3) := by
  obtain ⟨y0, g0⟩ := Bool.and_eq_true_iff.mp h
  have g0 := of_decide_eq_true g0
  subst g0
  obtain ⟨h1, h2⟩ := u1_ok rfl y0
  exact oq_n 3 h1 (fun e => (rb_ok e).trans ((rb_ok (s2_ok h2)).trans rfl))
theorem oq_162 {c : ByteArray} {p a b : Nat} {k0 : Int} (h : (pre_b (List.drop p c.data.toList) [162, a, b] && decide (Reader.signed 16 (a * 256 + b) = k0)) = true) : decode c p = .ok (.if_icmp .ge k0, 3) := by
  obtain ⟨y0, g0⟩ := Bool.and_eq_true_iff.mp h
  have g0 := of_decide_eq_true g0
  subst g0
  obtain ⟨h1, h2⟩ := u1_ok rfl y0
  exact oq_n 3 h1 (fun e => (rb_ok e).trans ((rb_ok (s2_ok h2)).trans rfl))
theorem oq_163 {c : ByteArray} {p a b : Nat} {k0 : Int} (h : (pre_b (List.drop p c.data.toList) [163, a, b] && decide (Reader.signed 16 (a * 256 + b) = k0)) = true) : decode c p = .ok (.if_icmp .gt k0, 3) := by
  obtain ⟨y0, g0⟩ := Bool.and_eq_true_iff.mp h
  have g0 := of_decide_eq_true g0
  subst g0
  obtain ⟨h1, h2⟩ := u1_ok rfl y0
  exact oq_n 3 h1 (fun e => (rb_ok e).trans ((rb_ok (s2_ok h2)).trans rfl))
theorem oq_164 {c : ByteArray} {p a b : Nat} {k0 : Int} (h : (pre_b (List.drop p c.data.toList) [164, a, b] && decide (Reader.signed 16 (a * 256 + b) = k0)) = true) : decode c p = .ok (.if_icmp .le k0, 3) := by
  obtain ⟨y0, g0⟩ := Bool.and_eq_true_iff.mp h
  have g0 := of_decide_eq_true g0
  subst g0
  obtain ⟨h1, h2⟩ := u1_ok rfl y0
  exact oq_n 3 h1 (fun e => (rb_ok e).trans ((rb_ok (s2_ok h2)).trans rfl))
theorem oq_167 {c : ByteArray} {p a b : Nat} {k0 : Int} (h : (pre_b (List.drop p c.data.toList) [167, a, b] && decide (Reader.signed 16 (a * 256 + b) = k0)) = true) : decode c p = .ok (.goto k0, 3) := by
  obtain ⟨y0, g0⟩ := Bool.and_eq_true_iff.mp h
  have g0 := of_decide_eq_true g0
  subst g0
  obtain ⟨h1, h2⟩ := u1_ok rfl y0
  exact oq_n 3 h1 (fun e => (rb_ok e).trans ((rb_ok (s2_ok h2)).trans rfl))
theorem oq_172 {c : ByteArray} {p : Nat} (h : (pre_b (List.drop p c.data.toList) [172]) = true) : decode c p = .ok (.ireturn, 1) := oq_0 (u1_ok rfl h).1 (fun e => (rb_ok e).trans rfl)
theorem oq_173 {c : ByteArray} {p : Nat} (h : (pre_b (List.drop p c.data.toList) [173]) = true) : decode c p = .ok (.lreturn, 1) := oq_0 (u1_ok rfl h).1 (fun e => (rb_ok e).trans rfl)
theorem oq_177 {c : ByteArray} {p : Nat} (h : (pre_b (List.drop p c.data.toList) [177]) = true) : decode c p = .ok (.return_, 1) := oq_0 (u1_ok rfl h).1 (fun e => (rb_ok e).trans rfl)
theorem oq_178 {c : ByteArray} {p a b : Nat} {k0 : Nat} (h : (pre_b (List.drop p c.data.toList) [178, a, b] && Nat.beq (a * 256 + b) k0) = true) : decode c p = .ok (.getstatic k0, 3) := by
  obtain ⟨y0, g0⟩ := Bool.and_eq_true_iff.mp h
  have g0 := Nat.eq_of_beq_eq_true g0
  subst g0
  obtain ⟨h1, h2⟩ := u1_ok rfl y0
  exact oq_n 3 h1 (fun e => (rb_ok e).trans ((rb_ok (u2_ok h2)).trans rfl))
theorem oq_180 {c : ByteArray} {p a b : Nat} {k0 : Nat} (h : (pre_b (List.drop p c.data.toList) [180, a, b] && Nat.beq (a * 256 + b) k0) = true) : decode c p = .ok (.getfield k0, 3) := by
  obtain ⟨y0, g0⟩ := Bool.and_eq_true_iff.mp h
  have g0 := Nat.eq_of_beq_eq_true g0
  subst g0
  obtain ⟨h1, h2⟩ := u1_ok rfl y0
  exact oq_n 3 h1 (fun e => (rb_ok e).trans ((rb_ok (u2_ok h2)).trans rfl))
theorem oq_181 {c : ByteArray} {p a b : Nat} {k0 : Nat} (h : (pre_b (List.drop p c.data.toList) [181, a, b] && Nat.beq (a * 256 + b) k0) = true) : decode c p = .ok (.putfield k0, 3) := by
  obtain ⟨y0, g0⟩ := Bool.and_eq_true_iff.mp h
  have g0 := Nat.eq_of_beq_eq_true g0
  subst g0
  obtain ⟨h1, h2⟩ := u1_ok rfl y0
  exact oq_n 3 h1 (fun e => (rb_ok e).trans ((rb_ok (u2_ok h2)).trans rfl))
theorem oq_182 {c : ByteArray} {p a b : Nat} {k0 : Nat} (h : (pre_b (List.drop p c.data.toList) [182, a, b] && Nat.beq (a * 256 + b) k0) = true) : decode c p = .ok (.invokevirtual k0, 3) := by
  obtain ⟨y0, g0⟩ := Bool.and_eq_true_iff.mp h
  have g0 := Nat.eq_of_beq_eq_true g0
  subst g0
  obtain ⟨h1, h2⟩ := u1_ok rfl y0
  exact oq_n 3 h1 (fun e => (rb_ok e).trans ((rb_ok (u2_ok h2)).trans rfl))
theorem oq_183 {c : ByteArray} {p a b : Nat} {k0 : Nat} (h : (pre_b (List.drop p c.data.toList) [183, a, b] && Nat.beq (a * 256 + b) k0) = true) : decode c p = .ok (.invokespecial k0, 3) := by
  obtain ⟨y0, g0⟩ := Bool.and_eq_true_iff.mp h
  have g0 := Nat.eq_of_beq_eq_true g0
  subst g0
  obtain ⟨h1, h2⟩ := u1_ok rfl y0
  exact oq_n 3 h1 (fun e => (rb_ok e).trans ((rb_ok (u2_ok h2)).trans rfl))
theorem oq_184 {c : ByteArray} {p a b : Nat} {k0 : Nat} (h : (pre_b (List.drop p c.data.toList) [184, a, b] && Nat.beq (a * 256 + b) k0) = true) : decode c p = .ok (.invokestatic k0, 3) := by
  obtain ⟨y0, g0⟩ := Bool.and_eq_true_iff.mp h
  have g0 := Nat.eq_of_beq_eq_true g0
  subst g0
  obtain ⟨h1, h2⟩ := u1_ok rfl y0
  exact oq_n 3 h1 (fun e => (rb_ok e).trans ((rb_ok (u2_ok h2)).trans rfl))
theorem oq_187 {c : ByteArray} {p a b : Nat} {k0 : Nat} (h : (pre_b (List.drop p c.data.toList) [187, a, b] && Nat.beq (a * 256 + b) k0) = true) : decode c p = .ok (.new k0, 3) := by
  obtain ⟨y0, g0⟩ := Bool.and_eq_true_iff.mp h
  have g0 := Nat.eq_of_beq_eq_true g0
  subst g0
  obtain ⟨h1, h2⟩ := u1_ok rfl y0
  exact oq_n 3 h1 (fun e => (rb_ok e).trans ((rb_ok (u2_ok h2)).trans rfl))
theorem oq_189 {c : ByteArray} {p a b : Nat} {k0 : Nat} (h : (pre_b (List.drop p c.data.toList) [189, a, b] && Nat.beq (a * 256 + b) k0) = true) : decode c p = .ok (.anewarray k0, 3) := by
  obtain ⟨y0, g0⟩ := Bool.and_eq_true_iff.mp h
  have g0 := Nat.eq_of_beq_eq_true g0
  subst g0
  obtain ⟨h1, h2⟩ := u1_ok rfl y0
  exact oq_n 3 h1 (fun e => (rb_ok e).trans ((rb_ok (u2_ok h2)).trans rfl))
theorem oq_190 {c : ByteArray} {p : Nat} (h : (pre_b (List.drop p c.data.toList) [190]) = true) : decode c p = .ok (.arraylength, 1) := oq_0 (u1_ok rfl h).1 (fun e => (rb_ok e).trans rfl)
theorem oq_198 {c : ByteArray} {p a b : Nat} {k0 : Int} (h : (pre_b (List.drop p c.data.toList) [198, a, b] && decide (Reader.signed 16 (a * 256 + b) = k0)) = true) : decode c p = .ok (.ifnull k0, 3) := by
  obtain ⟨y0, g0⟩ := Bool.and_eq_true_iff.mp h
  have g0 := of_decide_eq_true g0
  subst g0
  obtain ⟨h1, h2⟩ := u1_ok rfl y0
  exact oq_n 3 h1 (fun e => (rb_ok e).trans ((rb_ok (s2_ok h2)).trans rfl))
theorem oq_199 {c : ByteArray} {p a b : Nat} {k0 : Int} (h : (pre_b (List.drop p c.data.toList) [199, a, b] && decide (Reader.signed 16 (a * 256 + b) = k0)) = true) : decode c p = .ok (.ifnonnull k0, 3) := by
  obtain ⟨y0, g0⟩ := Bool.and_eq_true_iff.mp h
  have g0 := of_decide_eq_true g0
  subst g0
  obtain ⟨h1, h2⟩ := u1_ok rfl y0
  exact oq_n 3 h1 (fun e => (rb_ok e).trans ((rb_ok (s2_ok h2)).trans rfl))
theorem bdJ0_coder_7d493_0 : (pre_b (List.drop 0 cJ0_coder_7d493.data.toList) [178, 0, 38] && Nat.beq (0 * 256 + 38) 38) = true ∧ (pre_b (List.drop 3 cJ0_coder_7d493.data.toList) [153, 0, 10] && decide (Reader.signed 16 (0 * 256 + 10) = 10)) = true ∧ (pre_b (List.drop 6 cJ0_coder_7d493.data.toList) [42]) = true ∧ (pre_b (List.drop 7 cJ0_coder_7d493.data.toList) [180, 0, 15] && Nat.beq (0 * 256 + 15) 15) = true ∧ (pre_b (List.drop 10 cJ0_coder_7d493.data.toList) [167, 0, 4] && decide (Reader.signed 16 (0 * 256 + 4) = 4)) = true ∧ (pre_b (List.drop 14 cJ0_coder_7d493.data.toList) [172]) = true := by decide +kernel
theorem dJ0_coder_7d493_0 : decode cJ0_coder_7d493 0 = .ok (.getstatic 38, 3) := oq_178 bdJ0_coder_7d493_0.1
theorem dJ0_coder_7d493_3 : decode cJ0_coder_7d493 3 = .ok (.ifCond .eq 10, 3) := oq_153 bdJ0_coder_7d493_0.2.1
theorem dJ0_coder_7d493_6 : decode cJ0_coder_7d493 6 = .ok (.aload_n 0, 1) := oq_42 bdJ0_coder_7d493_0.2.2.1
theorem dJ0_coder_7d493_7 : decode cJ0_coder_7d493 7 = .ok (.getfield 15, 3) := oq_180 bdJ0_coder_7d493_0.2.2.2.1
theorem dJ0_coder_7d493_10 : decode cJ0_coder_7d493 10 = .ok (.goto 4, 3) := oq_167 bdJ0_coder_7d493_0.2.2.2.2.1
theorem dJ0_coder_7d493_14 : decode cJ0_coder_7d493 14 = .ok (.ireturn, 1) := oq_172 bdJ0_coder_7d493_0.2.2.2.2.2
theorem bdJ0_length_8abf5_0 : (pre_b (List.drop 0 cJ0_length_8abf5.data.toList) [42]) = true ∧ (pre_b (List.drop 1 cJ0_length_8abf5.data.toList) [180, 0, 9] && Nat.beq (0 * 256 + 9) 9) = true ∧ (pre_b (List.drop 4 cJ0_length_8abf5.data.toList) [190]) = true ∧ (pre_b (List.drop 5 cJ0_length_8abf5.data.toList) [42]) = true ∧ (pre_b (List.drop 6 cJ0_length_8abf5.data.toList) [182, 1, 79] && Nat.beq (1 * 256 + 79) 335) = true ∧ (pre_b (List.drop 9 cJ0_length_8abf5.data.toList) [122]) = true ∧ (pre_b (List.drop 10 cJ0_length_8abf5.data.toList) [172]) = true := by decide +kernel
theorem dJ0_length_8abf5_0 : decode cJ0_length_8abf5 0 = .ok (.aload_n 0, 1) := oq_42 bdJ0_length_8abf5_0.1
theorem dJ0_length_8abf5_1 : decode cJ0_length_8abf5 1 = .ok (.getfield 9, 3) := oq_180 bdJ0_length_8abf5_0.2.1
theorem dJ0_length_8abf5_4 : decode cJ0_length_8abf5 4 = .ok (.arraylength, 1) := oq_190 bdJ0_length_8abf5_0.2.2.1
theorem dJ0_length_8abf5_5 : decode cJ0_length_8abf5 5 = .ok (.aload_n 0, 1) := oq_42 bdJ0_length_8abf5_0.2.2.2.1
theorem dJ0_length_8abf5_6 : decode cJ0_length_8abf5 6 = .ok (.invokevirtual 335, 3) := oq_182 bdJ0_length_8abf5_0.2.2.2.2.1
theorem dJ0_length_8abf5_9 : decode cJ0_length_8abf5 9 = .ok (.ishr, 1) := oq_122 bdJ0_length_8abf5_0.2.2.2.2.2.1
theorem dJ0_length_8abf5_10 : decode cJ0_length_8abf5 10 = .ok (.ireturn, 1) := oq_172 bdJ0_length_8abf5_0.2.2.2.2.2.2
theorem bdJ0_isLatin1_aae02_0 : (pre_b (List.drop 0 cJ0_isLatin1_aae02.data.toList) [178, 0, 38] && Nat.beq (0 * 256 + 38) 38) = true ∧ (pre_b (List.drop 3 cJ0_isLatin1_aae02.data.toList) [153, 0, 14] && decide (Reader.signed 16 (0 * 256 + 14) = 14)) = true ∧ (pre_b (List.drop 6 cJ0_isLatin1_aae02.data.toList) [42]) = true ∧ (pre_b (List.drop 7 cJ0_isLatin1_aae02.data.toList) [180, 0, 15] && Nat.beq (0 * 256 + 15) 15) = true ∧ (pre_b (List.drop 10 cJ0_isLatin1_aae02.data.toList) [154, 0, 7] && decide (Reader.signed 16 (0 * 256 + 7) = 7)) = true ∧ (pre_b (List.drop 13 cJ0_isLatin1_aae02.data.toList) [4]) = true ∧ (pre_b (List.drop 14 cJ0_isLatin1_aae02.data.toList) [167, 0, 4] && decide (Reader.signed 16 (0 * 256 + 4) = 4)) = true ∧ (pre_b (List.drop 18 cJ0_isLatin1_aae02.data.toList) [172]) = true := by decide +kernel
theorem dJ0_isLatin1_aae02_0 : decode cJ0_isLatin1_aae02 0 = .ok (.getstatic 38, 3) := oq_178 bdJ0_isLatin1_aae02_0.1
theorem dJ0_isLatin1_aae02_3 : decode cJ0_isLatin1_aae02 3 = .ok (.ifCond .eq 14, 3) := oq_153 bdJ0_isLatin1_aae02_0.2.1
theorem dJ0_isLatin1_aae02_6 : decode cJ0_isLatin1_aae02 6 = .ok (.aload_n 0, 1) := oq_42 bdJ0_isLatin1_aae02_0.2.2.1
theorem dJ0_isLatin1_aae02_7 : decode cJ0_isLatin1_aae02 7 = .ok (.getfield 15, 3) := oq_180 bdJ0_isLatin1_aae02_0.2.2.2.1
theorem dJ0_isLatin1_aae02_10 : decode cJ0_isLatin1_aae02 10 = .ok (.ifCond .ne 7, 3) := oq_154 bdJ0_isLatin1_aae02_0.2.2.2.2.1
theorem dJ0_isLatin1_aae02_13 : decode cJ0_isLatin1_aae02 13 = .ok (.iconst 1, 1) := oq_4 bdJ0_isLatin1_aae02_0.2.2.2.2.2.1
theorem dJ0_isLatin1_aae02_14 : decode cJ0_isLatin1_aae02 14 = .ok (.goto 4, 3) := oq_167 bdJ0_isLatin1_aae02_0.2.2.2.2.2.2.1
theorem dJ0_isLatin1_aae02_18 : decode cJ0_isLatin1_aae02 18 = .ok (.ireturn, 1) := oq_172 bdJ0_isLatin1_aae02_0.2.2.2.2.2.2.2
theorem bdJ3_checkIndex_8e157_0 : (pre_b (List.drop 0 cJ3_checkIndex_8e157.data.toList) [26]) = true ∧ (pre_b (List.drop 1 cJ3_checkIndex_8e157.data.toList) [155, 0, 8] && decide (Reader.signed 16 (0 * 256 + 8) = 8)) = true ∧ (pre_b (List.drop 4 cJ3_checkIndex_8e157.data.toList) [26]) = true ∧ (pre_b (List.drop 5 cJ3_checkIndex_8e157.data.toList) [27]) = true ∧ (pre_b (List.drop 6 cJ3_checkIndex_8e157.data.toList) [161, 0, 10] && decide (Reader.signed 16 (0 * 256 + 10) = 10)) = true ∧ (pre_b (List.drop 9 cJ3_checkIndex_8e157.data.toList) [44]) = true ∧ (pre_b (List.drop 10 cJ3_checkIndex_8e157.data.toList) [26]) = true ∧ (pre_b (List.drop 11 cJ3_checkIndex_8e157.data.toList) [27]) = true ∧ (pre_b (List.drop 16 cJ3_checkIndex_8e157.data.toList) [26]) = true ∧ (pre_b (List.drop 17 cJ3_checkIndex_8e157.data.toList) [172]) = true := by decide +kernel
theorem dJ3_checkIndex_8e157_0 : decode cJ3_checkIndex_8e157 0 = .ok (.iload_n 0, 1) := oq_26 bdJ3_checkIndex_8e157_0.1
theorem dJ3_checkIndex_8e157_1 : decode cJ3_checkIndex_8e157 1 = .ok (.ifCond .lt 8, 3) := oq_155 bdJ3_checkIndex_8e157_0.2.1
theorem dJ3_checkIndex_8e157_4 : decode cJ3_checkIndex_8e157 4 = .ok (.iload_n 0, 1) := oq_26 bdJ3_checkIndex_8e157_0.2.2.1
theorem dJ3_checkIndex_8e157_5 : decode cJ3_checkIndex_8e157 5 = .ok (.iload_n 1, 1) := oq_27 bdJ3_checkIndex_8e157_0.2.2.2.1
theorem dJ3_checkIndex_8e157_6 : decode cJ3_checkIndex_8e157 6 = .ok (.if_icmp .lt 10, 3) := oq_161 bdJ3_checkIndex_8e157_0.2.2.2.2.1
theorem dJ3_checkIndex_8e157_9 : decode cJ3_checkIndex_8e157 9 = .ok (.aload_n 2, 1) := oq_44 bdJ3_checkIndex_8e157_0.2.2.2.2.2.1
theorem dJ3_checkIndex_8e157_10 : decode cJ3_checkIndex_8e157 10 = .ok (.iload_n 0, 1) := oq_26 bdJ3_checkIndex_8e157_0.2.2.2.2.2.2.1
theorem dJ3_checkIndex_8e157_11 : decode cJ3_checkIndex_8e157 11 = .ok (.iload_n 1, 1) := oq_27 bdJ3_checkIndex_8e157_0.2.2.2.2.2.2.2.1
theorem dJ3_checkIndex_8e157_16 : decode cJ3_checkIndex_8e157 16 = .ok (.iload_n 0, 1) := oq_26 bdJ3_checkIndex_8e157_0.2.2.2.2.2.2.2.2.1
theorem dJ3_checkIndex_8e157_17 : decode cJ3_checkIndex_8e157 17 = .ok (.ireturn, 1) := oq_172 bdJ3_checkIndex_8e157_0.2.2.2.2.2.2.2.2.2
theorem bdJ0_checkIndex_df160_0 : (pre_b (List.drop 0 cJ0_checkIndex_df160.data.toList) [26]) = true ∧ (pre_b (List.drop 1 cJ0_checkIndex_df160.data.toList) [27]) = true ∧ (pre_b (List.drop 2 cJ0_checkIndex_df160.data.toList) [178, 4, 29] && Nat.beq (4 * 256 + 29) 1053) = true ∧ (pre_b (List.drop 5 cJ0_checkIndex_df160.data.toList) [184, 4, 35] && Nat.beq (4 * 256 + 35) 1059) = true ∧ (pre_b (List.drop 8 cJ0_checkIndex_df160.data.toList) [87]) = true ∧ (pre_b (List.drop 9 cJ0_checkIndex_df160.data.toList) [177]) = true := by decide +kernel
theorem dJ0_checkIndex_df160_0 : decode cJ0_checkIndex_df160 0 = .ok (.iload_n 0, 1) := oq_26 bdJ0_checkIndex_df160_0.1
theorem dJ0_checkIndex_df160_1 : decode cJ0_checkIndex_df160 1 = .ok (.iload_n 1, 1) := oq_27 bdJ0_checkIndex_df160_0.2.1
theorem dJ0_checkIndex_df160_2 : decode cJ0_checkIndex_df160 2 = .ok (.getstatic 1053, 3) := oq_178 bdJ0_checkIndex_df160_0.2.2.1
theorem dJ0_checkIndex_df160_5 : decode cJ0_checkIndex_df160 5 = .ok (.invokestatic 1059, 3) := oq_184 bdJ0_checkIndex_df160_0.2.2.2.1
theorem dJ0_checkIndex_df160_8 : decode cJ0_checkIndex_df160 8 = .ok (.pop, 1) := oq_87 bdJ0_checkIndex_df160_0.2.2.2.2.1
theorem dJ0_checkIndex_df160_9 : decode cJ0_checkIndex_df160 9 = .ok (.return_, 1) := oq_177 bdJ0_checkIndex_df160_0.2.2.2.2.2
theorem bdJ1_charAt_3b067_0 : (pre_b (List.drop 0 cJ1_charAt_3b067.data.toList) [27]) = true ∧ (pre_b (List.drop 1 cJ1_charAt_3b067.data.toList) [42]) = true ∧ (pre_b (List.drop 2 cJ1_charAt_3b067.data.toList) [190]) = true ∧ (pre_b (List.drop 3 cJ1_charAt_3b067.data.toList) [184, 0, 9] && Nat.beq (0 * 256 + 9) 9) = true ∧ (pre_b (List.drop 6 cJ1_charAt_3b067.data.toList) [42]) = true ∧ (pre_b (List.drop 7 cJ1_charAt_3b067.data.toList) [27]) = true ∧ (pre_b (List.drop 8 cJ1_charAt_3b067.data.toList) [51]) = true ∧ (pre_b (List.drop 9 cJ1_charAt_3b067.data.toList) [17, 0, 255] && decide (Reader.signed 16 (0 * 256 + 255) = 255)) = true ∧ (pre_b (List.drop 12 cJ1_charAt_3b067.data.toList) [126]) = true ∧ (pre_b (List.drop 13 cJ1_charAt_3b067.data.toList) [146]) = true ∧ (pre_b (List.drop 14 cJ1_charAt_3b067.data.toList) [172]) = true := by decide +kernel
theorem dJ1_charAt_3b067_0 : decode cJ1_charAt_3b067 0 = .ok (.iload_n 1, 1) := oq_27 bdJ1_charAt_3b067_0.1
theorem dJ1_charAt_3b067_1 : decode cJ1_charAt_3b067 1 = .ok (.aload_n 0, 1) := oq_42 bdJ1_charAt_3b067_0.2.1
theorem dJ1_charAt_3b067_2 : decode cJ1_charAt_3b067 2 = .ok (.arraylength, 1) := oq_190 bdJ1_charAt_3b067_0.2.2.1
theorem dJ1_charAt_3b067_3 : decode cJ1_charAt_3b067 3 = .ok (.invokestatic 9, 3) := oq_184 bdJ1_charAt_3b067_0.2.2.2.1
theorem dJ1_charAt_3b067_6 : decode cJ1_charAt_3b067 6 = .ok (.aload_n 0, 1) := oq_42 bdJ1_charAt_3b067_0.2.2.2.2.1
theorem dJ1_charAt_3b067_7 : decode cJ1_charAt_3b067 7 = .ok (.iload_n 1, 1) := oq_27 bdJ1_charAt_3b067_0.2.2.2.2.2.1
theorem dJ1_charAt_3b067_8 : decode cJ1_charAt_3b067 8 = .ok (.baload, 1) := oq_51 bdJ1_charAt_3b067_0.2.2.2.2.2.2.1
theorem dJ1_charAt_3b067_9 : decode cJ1_charAt_3b067 9 = .ok (.sipush 255, 3) := oq_17 bdJ1_charAt_3b067_0.2.2.2.2.2.2.2.1
theorem dJ1_charAt_3b067_12 : decode cJ1_charAt_3b067 12 = .ok (.iand, 1) := oq_126 bdJ1_charAt_3b067_0.2.2.2.2.2.2.2.2.1
theorem dJ1_charAt_3b067_13 : decode cJ1_charAt_3b067 13 = .ok (.i2c, 1) := oq_146 bdJ1_charAt_3b067_0.2.2.2.2.2.2.2.2.2.1
theorem dJ1_charAt_3b067_14 : decode cJ1_charAt_3b067 14 = .ok (.ireturn, 1) := oq_172 bdJ1_charAt_3b067_0.2.2.2.2.2.2.2.2.2.2
theorem bdJ0_charAt_5068e_0 : (pre_b (List.drop 0 cJ0_charAt_5068e.data.toList) [42]) = true ∧ (pre_b (List.drop 1 cJ0_charAt_5068e.data.toList) [182, 1, 236] && Nat.beq (1 * 256 + 236) 492) = true ∧ (pre_b (List.drop 4 cJ0_charAt_5068e.data.toList) [153, 0, 12] && decide (Reader.signed 16 (0 * 256 + 12) = 12)) = true ∧ (pre_b (List.drop 7 cJ0_charAt_5068e.data.toList) [42]) = true ∧ (pre_b (List.drop 8 cJ0_charAt_5068e.data.toList) [180, 0, 9] && Nat.beq (0 * 256 + 9) 9) = true ∧ (pre_b (List.drop 11 cJ0_charAt_5068e.data.toList) [27]) = true ∧ (pre_b (List.drop 12 cJ0_charAt_5068e.data.toList) [184, 1, 239] && Nat.beq (1 * 256 + 239) 495) = true ∧ (pre_b (List.drop 15 cJ0_charAt_5068e.data.toList) [172]) = true ∧ (pre_b (List.drop 16 cJ0_charAt_5068e.data.toList) [42]) = true ∧ (pre_b (List.drop 17 cJ0_charAt_5068e.data.toList) [180, 0, 9] && Nat.beq (0 * 256 + 9) 9) = true ∧ (pre_b (List.drop 20 cJ0_charAt_5068e.data.toList) [27]) = true := by decide +kernel
theorem dJ0_charAt_5068e_0 : decode cJ0_charAt_5068e 0 = .ok (.aload_n 0, 1) := oq_42 bdJ0_charAt_5068e_0.1
theorem dJ0_charAt_5068e_1 : decode cJ0_charAt_5068e 1 = .ok (.invokevirtual 492, 3) := oq_182 bdJ0_charAt_5068e_0.2.1
theorem dJ0_charAt_5068e_4 : decode cJ0_charAt_5068e 4 = .ok (.ifCond .eq 12, 3) := oq_153 bdJ0_charAt_5068e_0.2.2.1
theorem dJ0_charAt_5068e_7 : decode cJ0_charAt_5068e 7 = .ok (.aload_n 0, 1) := oq_42 bdJ0_charAt_5068e_0.2.2.2.1
theorem dJ0_charAt_5068e_8 : decode cJ0_charAt_5068e 8 = .ok (.getfield 9, 3) := oq_180 bdJ0_charAt_5068e_0.2.2.2.2.1
theorem dJ0_charAt_5068e_11 : decode cJ0_charAt_5068e 11 = .ok (.iload_n 1, 1) := oq_27 bdJ0_charAt_5068e_0.2.2.2.2.2.1
theorem dJ0_charAt_5068e_12 : decode cJ0_charAt_5068e 12 = .ok (.invokestatic 495, 3) := oq_184 bdJ0_charAt_5068e_0.2.2.2.2.2.2.1
theorem dJ0_charAt_5068e_15 : decode cJ0_charAt_5068e 15 = .ok (.ireturn, 1) := oq_172 bdJ0_charAt_5068e_0.2.2.2.2.2.2.2.1
theorem dJ0_charAt_5068e_16 : decode cJ0_charAt_5068e 16 = .ok (.aload_n 0, 1) := oq_42 bdJ0_charAt_5068e_0.2.2.2.2.2.2.2.2.1
theorem dJ0_charAt_5068e_17 : decode cJ0_charAt_5068e 17 = .ok (.getfield 9, 3) := oq_180 bdJ0_charAt_5068e_0.2.2.2.2.2.2.2.2.2.1
theorem dJ0_charAt_5068e_20 : decode cJ0_charAt_5068e 20 = .ok (.iload_n 1, 1) := oq_27 bdJ0_charAt_5068e_0.2.2.2.2.2.2.2.2.2.2
theorem bdJ7_fill_53178_0 : (pre_b (List.drop 0 cJ7_fill_53178.data.toList) [3]) = true ∧ (pre_b (List.drop 1 cJ7_fill_53178.data.toList) [61]) = true ∧ (pre_b (List.drop 2 cJ7_fill_53178.data.toList) [42]) = true ∧ (pre_b (List.drop 3 cJ7_fill_53178.data.toList) [190]) = true ∧ (pre_b (List.drop 4 cJ7_fill_53178.data.toList) [62]) = true ∧ (pre_b (List.drop 5 cJ7_fill_53178.data.toList) [28]) = true ∧ (pre_b (List.drop 6 cJ7_fill_53178.data.toList) [29]) = true ∧ (pre_b (List.drop 7 cJ7_fill_53178.data.toList) [162, 0, 13] && decide (Reader.signed 16 (0 * 256 + 13) = 13)) = true ∧ (pre_b (List.drop 10 cJ7_fill_53178.data.toList) [42]) = true ∧ (pre_b (List.drop 11 cJ7_fill_53178.data.toList) [28]) = true ∧ (pre_b (List.drop 12 cJ7_fill_53178.data.toList) [27]) = true ∧ (pre_b (List.drop 13 cJ7_fill_53178.data.toList) [79]) = true := by decide +kernel
theorem dJ7_fill_53178_0 : decode cJ7_fill_53178 0 = .ok (.iconst 0, 1) := oq_3 bdJ7_fill_53178_0.1
theorem dJ7_fill_53178_1 : decode cJ7_fill_53178 1 = .ok (.istore_n 2, 1) := oq_61 bdJ7_fill_53178_0.2.1
theorem dJ7_fill_53178_2 : decode cJ7_fill_53178 2 = .ok (.aload_n 0, 1) := oq_42 bdJ7_fill_53178_0.2.2.1
theorem dJ7_fill_53178_3 : decode cJ7_fill_53178 3 = .ok (.arraylength, 1) := oq_190 bdJ7_fill_53178_0.2.2.2.1
theorem dJ7_fill_53178_4 : decode cJ7_fill_53178 4 = .ok (.istore_n 3, 1) := oq_62 bdJ7_fill_53178_0.2.2.2.2.1
theorem dJ7_fill_53178_5 : decode cJ7_fill_53178 5 = .ok (.iload_n 2, 1) := oq_28 bdJ7_fill_53178_0.2.2.2.2.2.1
theorem dJ7_fill_53178_6 : decode cJ7_fill_53178 6 = .ok (.iload_n 3, 1) := oq_29 bdJ7_fill_53178_0.2.2.2.2.2.2.1
theorem dJ7_fill_53178_7 : decode cJ7_fill_53178 7 = .ok (.if_icmp .ge 13, 3) := oq_162 bdJ7_fill_53178_0.2.2.2.2.2.2.2.1
theorem dJ7_fill_53178_10 : decode cJ7_fill_53178 10 = .ok (.aload_n 0, 1) := oq_42 bdJ7_fill_53178_0.2.2.2.2.2.2.2.2.1
theorem dJ7_fill_53178_11 : decode cJ7_fill_53178 11 = .ok (.iload_n 2, 1) := oq_28 bdJ7_fill_53178_0.2.2.2.2.2.2.2.2.2.1
theorem dJ7_fill_53178_12 : decode cJ7_fill_53178 12 = .ok (.iload_n 1, 1) := oq_27 bdJ7_fill_53178_0.2.2.2.2.2.2.2.2.2.2.1
theorem dJ7_fill_53178_13 : decode cJ7_fill_53178 13 = .ok (.iastore, 1) := oq_79 bdJ7_fill_53178_0.2.2.2.2.2.2.2.2.2.2.2
theorem bdJ7_fill_53178_14 : (pre_b (List.drop 14 cJ7_fill_53178.data.toList) [132, 2, 1] && Nat.beq (2) 2 && decide (Reader.signed 8 (1) = 1)) = true ∧ (pre_b (List.drop 17 cJ7_fill_53178.data.toList) [167, 255, 244] && decide (Reader.signed 16 (255 * 256 + 244) = (-12))) = true ∧ (pre_b (List.drop 20 cJ7_fill_53178.data.toList) [177]) = true := by decide +kernel
theorem dJ7_fill_53178_14 : decode cJ7_fill_53178 14 = .ok (.iinc 2 1, 3) := oq_132 bdJ7_fill_53178_14.1
theorem dJ7_fill_53178_17 : decode cJ7_fill_53178 17 = .ok (.goto (-12), 3) := oq_167 bdJ7_fill_53178_14.2.1
theorem dJ7_fill_53178_20 : decode cJ7_fill_53178 20 = .ok (.return_, 1) := oq_177 bdJ7_fill_53178_14.2.2
theorem bdX0_makeCell_0 : (pre_b (List.drop 0 cX0_makeCell.data.toList) [42]) = true ∧ (pre_b (List.drop 1 cX0_makeCell.data.toList) [180, 0, 21] && Nat.beq (0 * 256 + 21) 21) = true ∧ (pre_b (List.drop 4 cX0_makeCell.data.toList) [27]) = true ∧ (pre_b (List.drop 5 cX0_makeCell.data.toList) [28]) = true ∧ (pre_b (List.drop 6 cX0_makeCell.data.toList) [79]) = true ∧ (pre_b (List.drop 7 cX0_makeCell.data.toList) [42]) = true ∧ (pre_b (List.drop 8 cX0_makeCell.data.toList) [180, 0, 24] && Nat.beq (0 * 256 + 24) 24) = true ∧ (pre_b (List.drop 11 cX0_makeCell.data.toList) [27]) = true ∧ (pre_b (List.drop 12 cX0_makeCell.data.toList) [3]) = true ∧ (pre_b (List.drop 13 cX0_makeCell.data.toList) [79]) = true ∧ (pre_b (List.drop 14 cX0_makeCell.data.toList) [42]) = true ∧ (pre_b (List.drop 15 cX0_makeCell.data.toList) [180, 0, 27] && Nat.beq (0 * 256 + 27) 27) = true := by decide +kernel
theorem dX0_makeCell_0 : decode cX0_makeCell 0 = .ok (.aload_n 0, 1) := oq_42 bdX0_makeCell_0.1
theorem dX0_makeCell_1 : decode cX0_makeCell 1 = .ok (.getfield 21, 3) := oq_180 bdX0_makeCell_0.2.1
theorem dX0_makeCell_4 : decode cX0_makeCell 4 = .ok (.iload_n 1, 1) := oq_27 bdX0_makeCell_0.2.2.1
theorem dX0_makeCell_5 : decode cX0_makeCell 5 = .ok (.iload_n 2, 1) := oq_28 bdX0_makeCell_0.2.2.2.1
theorem dX0_makeCell_6 : decode cX0_makeCell 6 = .ok (.iastore, 1) := oq_79 bdX0_makeCell_0.2.2.2.2.1
theorem dX0_makeCell_7 : decode cX0_makeCell 7 = .ok (.aload_n 0, 1) := oq_42 bdX0_makeCell_0.2.2.2.2.2.1
theorem dX0_makeCell_8 : decode cX0_makeCell 8 = .ok (.getfield 24, 3) := oq_180 bdX0_makeCell_0.2.2.2.2.2.2.1
theorem dX0_makeCell_11 : decode cX0_makeCell 11 = .ok (.iload_n 1, 1) := oq_27 bdX0_makeCell_0.2.2.2.2.2.2.2.1
theorem dX0_makeCell_12 : decode cX0_makeCell 12 = .ok (.iconst 0, 1) := oq_3 bdX0_makeCell_0.2.2.2.2.2.2.2.2.1
theorem dX0_makeCell_13 : decode cX0_makeCell 13 = .ok (.iastore, 1) := oq_79 bdX0_makeCell_0.2.2.2.2.2.2.2.2.2.1
theorem dX0_makeCell_14 : decode cX0_makeCell 14 = .ok (.aload_n 0, 1) := oq_42 bdX0_makeCell_0.2.2.2.2.2.2.2.2.2.2.1
theorem dX0_makeCell_15 : decode cX0_makeCell 15 = .ok (.getfield 27, 3) := oq_180 bdX0_makeCell_0.2.2.2.2.2.2.2.2.2.2.2
theorem bdX0_makeCell_18 : (pre_b (List.drop 18 cX0_makeCell.data.toList) [27]) = true ∧ (pre_b (List.drop 19 cX0_makeCell.data.toList) [3]) = true ∧ (pre_b (List.drop 20 cX0_makeCell.data.toList) [79]) = true ∧ (pre_b (List.drop 21 cX0_makeCell.data.toList) [42]) = true ∧ (pre_b (List.drop 22 cX0_makeCell.data.toList) [180, 0, 30] && Nat.beq (0 * 256 + 30) 30) = true ∧ (pre_b (List.drop 25 cX0_makeCell.data.toList) [27]) = true ∧ (pre_b (List.drop 26 cX0_makeCell.data.toList) [3]) = true ∧ (pre_b (List.drop 27 cX0_makeCell.data.toList) [79]) = true ∧ (pre_b (List.drop 28 cX0_makeCell.data.toList) [42]) = true ∧ (pre_b (List.drop 29 cX0_makeCell.data.toList) [180, 0, 33] && Nat.beq (0 * 256 + 33) 33) = true ∧ (pre_b (List.drop 32 cX0_makeCell.data.toList) [27]) = true ∧ (pre_b (List.drop 33 cX0_makeCell.data.toList) [3]) = true := by decide +kernel
theorem dX0_makeCell_18 : decode cX0_makeCell 18 = .ok (.iload_n 1, 1) := oq_27 bdX0_makeCell_18.1
theorem dX0_makeCell_19 : decode cX0_makeCell 19 = .ok (.iconst 0, 1) := oq_3 bdX0_makeCell_18.2.1
theorem dX0_makeCell_20 : decode cX0_makeCell 20 = .ok (.iastore, 1) := oq_79 bdX0_makeCell_18.2.2.1
theorem dX0_makeCell_21 : decode cX0_makeCell 21 = .ok (.aload_n 0, 1) := oq_42 bdX0_makeCell_18.2.2.2.1
theorem dX0_makeCell_22 : decode cX0_makeCell 22 = .ok (.getfield 30, 3) := oq_180 bdX0_makeCell_18.2.2.2.2.1
theorem dX0_makeCell_25 : decode cX0_makeCell 25 = .ok (.iload_n 1, 1) := oq_27 bdX0_makeCell_18.2.2.2.2.2.1
theorem dX0_makeCell_26 : decode cX0_makeCell 26 = .ok (.iconst 0, 1) := oq_3 bdX0_makeCell_18.2.2.2.2.2.2.1
theorem dX0_makeCell_27 : decode cX0_makeCell 27 = .ok (.iastore, 1) := oq_79 bdX0_makeCell_18.2.2.2.2.2.2.2.1
theorem dX0_makeCell_28 : decode cX0_makeCell 28 = .ok (.aload_n 0, 1) := oq_42 bdX0_makeCell_18.2.2.2.2.2.2.2.2.1
theorem dX0_makeCell_29 : decode cX0_makeCell 29 = .ok (.getfield 33, 3) := oq_180 bdX0_makeCell_18.2.2.2.2.2.2.2.2.2.1
theorem dX0_makeCell_32 : decode cX0_makeCell 32 = .ok (.iload_n 1, 1) := oq_27 bdX0_makeCell_18.2.2.2.2.2.2.2.2.2.2.1
theorem dX0_makeCell_33 : decode cX0_makeCell 33 = .ok (.iconst 0, 1) := oq_3 bdX0_makeCell_18.2.2.2.2.2.2.2.2.2.2.2
theorem bdX0_makeCell_34 : (pre_b (List.drop 34 cX0_makeCell.data.toList) [79]) = true ∧ (pre_b (List.drop 35 cX0_makeCell.data.toList) [42]) = true ∧ (pre_b (List.drop 36 cX0_makeCell.data.toList) [180, 0, 36] && Nat.beq (0 * 256 + 36) 36) = true ∧ (pre_b (List.drop 39 cX0_makeCell.data.toList) [27]) = true ∧ (pre_b (List.drop 40 cX0_makeCell.data.toList) [3]) = true ∧ (pre_b (List.drop 41 cX0_makeCell.data.toList) [79]) = true ∧ (pre_b (List.drop 42 cX0_makeCell.data.toList) [42]) = true ∧ (pre_b (List.drop 43 cX0_makeCell.data.toList) [180, 0, 39] && Nat.beq (0 * 256 + 39) 39) = true ∧ (pre_b (List.drop 46 cX0_makeCell.data.toList) [27]) = true ∧ (pre_b (List.drop 47 cX0_makeCell.data.toList) [3]) = true ∧ (pre_b (List.drop 48 cX0_makeCell.data.toList) [79]) = true ∧ (pre_b (List.drop 49 cX0_makeCell.data.toList) [42]) = true := by decide +kernel
theorem dX0_makeCell_34 : decode cX0_makeCell 34 = .ok (.iastore, 1) := oq_79 bdX0_makeCell_34.1
theorem dX0_makeCell_35 : decode cX0_makeCell 35 = .ok (.aload_n 0, 1) := oq_42 bdX0_makeCell_34.2.1
theorem dX0_makeCell_36 : decode cX0_makeCell 36 = .ok (.getfield 36, 3) := oq_180 bdX0_makeCell_34.2.2.1
theorem dX0_makeCell_39 : decode cX0_makeCell 39 = .ok (.iload_n 1, 1) := oq_27 bdX0_makeCell_34.2.2.2.1
theorem dX0_makeCell_40 : decode cX0_makeCell 40 = .ok (.iconst 0, 1) := oq_3 bdX0_makeCell_34.2.2.2.2.1
theorem dX0_makeCell_41 : decode cX0_makeCell 41 = .ok (.iastore, 1) := oq_79 bdX0_makeCell_34.2.2.2.2.2.1
theorem dX0_makeCell_42 : decode cX0_makeCell 42 = .ok (.aload_n 0, 1) := oq_42 bdX0_makeCell_34.2.2.2.2.2.2.1
theorem dX0_makeCell_43 : decode cX0_makeCell 43 = .ok (.getfield 39, 3) := oq_180 bdX0_makeCell_34.2.2.2.2.2.2.2.1
theorem dX0_makeCell_46 : decode cX0_makeCell 46 = .ok (.iload_n 1, 1) := oq_27 bdX0_makeCell_34.2.2.2.2.2.2.2.2.1
theorem dX0_makeCell_47 : decode cX0_makeCell 47 = .ok (.iconst 0, 1) := oq_3 bdX0_makeCell_34.2.2.2.2.2.2.2.2.2.1
theorem dX0_makeCell_48 : decode cX0_makeCell 48 = .ok (.iastore, 1) := oq_79 bdX0_makeCell_34.2.2.2.2.2.2.2.2.2.2.1
theorem dX0_makeCell_49 : decode cX0_makeCell 49 = .ok (.aload_n 0, 1) := oq_42 bdX0_makeCell_34.2.2.2.2.2.2.2.2.2.2.2
theorem bdX0_makeCell_50 : (pre_b (List.drop 50 cX0_makeCell.data.toList) [180, 0, 42] && Nat.beq (0 * 256 + 42) 42) = true ∧ (pre_b (List.drop 53 cX0_makeCell.data.toList) [27]) = true ∧ (pre_b (List.drop 54 cX0_makeCell.data.toList) [9]) = true ∧ (pre_b (List.drop 55 cX0_makeCell.data.toList) [80]) = true ∧ (pre_b (List.drop 56 cX0_makeCell.data.toList) [177]) = true := by decide +kernel
theorem dX0_makeCell_50 : decode cX0_makeCell 50 = .ok (.getfield 42, 3) := oq_180 bdX0_makeCell_50.1
theorem dX0_makeCell_53 : decode cX0_makeCell 53 = .ok (.iload_n 1, 1) := oq_27 bdX0_makeCell_50.2.1
theorem dX0_makeCell_54 : decode cX0_makeCell 54 = .ok (.lconst 0, 1) := oq_9 bdX0_makeCell_50.2.2.1
theorem dX0_makeCell_55 : decode cX0_makeCell 55 = .ok (.lastore, 1) := oq_80 bdX0_makeCell_50.2.2.2.1
theorem dX0_makeCell_56 : decode cX0_makeCell 56 = .ok (.return_, 1) := oq_177 bdX0_makeCell_50.2.2.2.2
theorem bdX0_clear_0 : (pre_b (List.drop 0 cX0_clear.data.toList) [42]) = true ∧ (pre_b (List.drop 1 cX0_clear.data.toList) [3]) = true ∧ (pre_b (List.drop 2 cX0_clear.data.toList) [181, 0, 49] && Nat.beq (0 * 256 + 49) 49) = true ∧ (pre_b (List.drop 5 cX0_clear.data.toList) [42]) = true ∧ (pre_b (List.drop 6 cX0_clear.data.toList) [3]) = true ∧ (pre_b (List.drop 7 cX0_clear.data.toList) [181, 0, 53] && Nat.beq (0 * 256 + 53) 53) = true ∧ (pre_b (List.drop 10 cX0_clear.data.toList) [42]) = true ∧ (pre_b (List.drop 11 cX0_clear.data.toList) [3]) = true ∧ (pre_b (List.drop 12 cX0_clear.data.toList) [181, 0, 56] && Nat.beq (0 * 256 + 56) 56) = true ∧ (pre_b (List.drop 15 cX0_clear.data.toList) [42]) = true ∧ (pre_b (List.drop 16 cX0_clear.data.toList) [3]) = true ∧ (pre_b (List.drop 17 cX0_clear.data.toList) [181, 0, 59] && Nat.beq (0 * 256 + 59) 59) = true := by decide +kernel
theorem dX0_clear_0 : decode cX0_clear 0 = .ok (.aload_n 0, 1) := oq_42 bdX0_clear_0.1
theorem dX0_clear_1 : decode cX0_clear 1 = .ok (.iconst 0, 1) := oq_3 bdX0_clear_0.2.1
theorem dX0_clear_2 : decode cX0_clear 2 = .ok (.putfield 49, 3) := oq_181 bdX0_clear_0.2.2.1
theorem dX0_clear_5 : decode cX0_clear 5 = .ok (.aload_n 0, 1) := oq_42 bdX0_clear_0.2.2.2.1
theorem dX0_clear_6 : decode cX0_clear 6 = .ok (.iconst 0, 1) := oq_3 bdX0_clear_0.2.2.2.2.1
theorem dX0_clear_7 : decode cX0_clear 7 = .ok (.putfield 53, 3) := oq_181 bdX0_clear_0.2.2.2.2.2.1
theorem dX0_clear_10 : decode cX0_clear 10 = .ok (.aload_n 0, 1) := oq_42 bdX0_clear_0.2.2.2.2.2.2.1
theorem dX0_clear_11 : decode cX0_clear 11 = .ok (.iconst 0, 1) := oq_3 bdX0_clear_0.2.2.2.2.2.2.2.1
theorem dX0_clear_12 : decode cX0_clear 12 = .ok (.putfield 56, 3) := oq_181 bdX0_clear_0.2.2.2.2.2.2.2.2.1
theorem dX0_clear_15 : decode cX0_clear 15 = .ok (.aload_n 0, 1) := oq_42 bdX0_clear_0.2.2.2.2.2.2.2.2.2.1
theorem dX0_clear_16 : decode cX0_clear 16 = .ok (.iconst 0, 1) := oq_3 bdX0_clear_0.2.2.2.2.2.2.2.2.2.2.1
theorem dX0_clear_17 : decode cX0_clear 17 = .ok (.putfield 59, 3) := oq_181 bdX0_clear_0.2.2.2.2.2.2.2.2.2.2.2
theorem bdX0_clear_20 : (pre_b (List.drop 20 cX0_clear.data.toList) [42]) = true ∧ (pre_b (List.drop 21 cX0_clear.data.toList) [3]) = true ∧ (pre_b (List.drop 22 cX0_clear.data.toList) [181, 0, 62] && Nat.beq (0 * 256 + 62) 62) = true ∧ (pre_b (List.drop 25 cX0_clear.data.toList) [42]) = true ∧ (pre_b (List.drop 26 cX0_clear.data.toList) [3]) = true ∧ (pre_b (List.drop 27 cX0_clear.data.toList) [181, 0, 65] && Nat.beq (0 * 256 + 65) 65) = true ∧ (pre_b (List.drop 30 cX0_clear.data.toList) [3]) = true ∧ (pre_b (List.drop 31 cX0_clear.data.toList) [60]) = true ∧ (pre_b (List.drop 32 cX0_clear.data.toList) [27]) = true ∧ (pre_b (List.drop 33 cX0_clear.data.toList) [16, 40] && decide (Reader.signed 8 (40) = 40)) = true ∧ (pre_b (List.drop 35 cX0_clear.data.toList) [162, 0, 15] && decide (Reader.signed 16 (0 * 256 + 15) = 15)) = true ∧ (pre_b (List.drop 38 cX0_clear.data.toList) [42]) = true := by decide +kernel
theorem dX0_clear_20 : decode cX0_clear 20 = .ok (.aload_n 0, 1) := oq_42 bdX0_clear_20.1
theorem dX0_clear_21 : decode cX0_clear 21 = .ok (.iconst 0, 1) := oq_3 bdX0_clear_20.2.1
theorem dX0_clear_22 : decode cX0_clear 22 = .ok (.putfield 62, 3) := oq_181 bdX0_clear_20.2.2.1
theorem dX0_clear_25 : decode cX0_clear 25 = .ok (.aload_n 0, 1) := oq_42 bdX0_clear_20.2.2.2.1
theorem dX0_clear_26 : decode cX0_clear 26 = .ok (.iconst 0, 1) := oq_3 bdX0_clear_20.2.2.2.2.1
theorem dX0_clear_27 : decode cX0_clear 27 = .ok (.putfield 65, 3) := oq_181 bdX0_clear_20.2.2.2.2.2.1
theorem dX0_clear_30 : decode cX0_clear 30 = .ok (.iconst 0, 1) := oq_3 bdX0_clear_20.2.2.2.2.2.2.1
theorem dX0_clear_31 : decode cX0_clear 31 = .ok (.istore_n 1, 1) := oq_60 bdX0_clear_20.2.2.2.2.2.2.2.1
theorem dX0_clear_32 : decode cX0_clear 32 = .ok (.iload_n 1, 1) := oq_27 bdX0_clear_20.2.2.2.2.2.2.2.2.1
theorem dX0_clear_33 : decode cX0_clear 33 = .ok (.bipush 40, 2) := oq_16 bdX0_clear_20.2.2.2.2.2.2.2.2.2.1
theorem dX0_clear_35 : decode cX0_clear 35 = .ok (.if_icmp .ge 15, 3) := oq_162 bdX0_clear_20.2.2.2.2.2.2.2.2.2.2.1
theorem dX0_clear_38 : decode cX0_clear 38 = .ok (.aload_n 0, 1) := oq_42 bdX0_clear_20.2.2.2.2.2.2.2.2.2.2.2
theorem bdX0_clear_39 : (pre_b (List.drop 39 cX0_clear.data.toList) [27]) = true ∧ (pre_b (List.drop 40 cX0_clear.data.toList) [3]) = true ∧ (pre_b (List.drop 41 cX0_clear.data.toList) [182, 0, 68] && Nat.beq (0 * 256 + 68) 68) = true ∧ (pre_b (List.drop 44 cX0_clear.data.toList) [132, 1, 1] && Nat.beq (1) 1 && decide (Reader.signed 8 (1) = 1)) = true ∧ (pre_b (List.drop 47 cX0_clear.data.toList) [167, 255, 241] && decide (Reader.signed 16 (255 * 256 + 241) = (-15))) = true ∧ (pre_b (List.drop 50 cX0_clear.data.toList) [177]) = true := by decide +kernel
theorem dX0_clear_39 : decode cX0_clear 39 = .ok (.iload_n 1, 1) := oq_27 bdX0_clear_39.1
theorem dX0_clear_40 : decode cX0_clear 40 = .ok (.iconst 0, 1) := oq_3 bdX0_clear_39.2.1
theorem dX0_clear_41 : decode cX0_clear 41 = .ok (.invokevirtual 68, 3) := oq_182 bdX0_clear_39.2.2.1
theorem dX0_clear_44 : decode cX0_clear 44 = .ok (.iinc 1 1, 3) := oq_132 bdX0_clear_39.2.2.2.1
theorem dX0_clear_47 : decode cX0_clear 47 = .ok (.goto (-15), 3) := oq_167 bdX0_clear_39.2.2.2.2.1
theorem dX0_clear_50 : decode cX0_clear 50 = .ok (.return_, 1) := oq_177 bdX0_clear_39.2.2.2.2.2
theorem bdX0_cells_0 : (pre_b (List.drop 0 cX0_cells.data.toList) [42]) = true ∧ (pre_b (List.drop 1 cX0_cells.data.toList) [180, 0, 49] && Nat.beq (0 * 256 + 49) 49) = true ∧ (pre_b (List.drop 4 cX0_cells.data.toList) [42]) = true ∧ (pre_b (List.drop 5 cX0_cells.data.toList) [180, 0, 53] && Nat.beq (0 * 256 + 53) 53) = true ∧ (pre_b (List.drop 8 cX0_cells.data.toList) [104]) = true ∧ (pre_b (List.drop 9 cX0_cells.data.toList) [172]) = true := by decide +kernel
theorem dX0_cells_0 : decode cX0_cells 0 = .ok (.aload_n 0, 1) := oq_42 bdX0_cells_0.1
theorem dX0_cells_1 : decode cX0_cells 1 = .ok (.getfield 49, 3) := oq_180 bdX0_cells_0.2.1
theorem dX0_cells_4 : decode cX0_cells 4 = .ok (.aload_n 0, 1) := oq_42 bdX0_cells_0.2.2.1
theorem dX0_cells_5 : decode cX0_cells 5 = .ok (.getfield 53, 3) := oq_180 bdX0_cells_0.2.2.2.1
theorem dX0_cells_8 : decode cX0_cells 8 = .ok (.imul, 1) := oq_104 bdX0_cells_0.2.2.2.2.1
theorem dX0_cells_9 : decode cX0_cells 9 = .ok (.ireturn, 1) := oq_172 bdX0_cells_0.2.2.2.2.2
theorem bdX0_hasCell_0 : (pre_b (List.drop 0 cX0_hasCell.data.toList) [27]) = true ∧ (pre_b (List.drop 1 cX0_hasCell.data.toList) [155, 0, 15] && decide (Reader.signed 16 (0 * 256 + 15) = 15)) = true ∧ (pre_b (List.drop 4 cX0_hasCell.data.toList) [27]) = true ∧ (pre_b (List.drop 5 cX0_hasCell.data.toList) [42]) = true ∧ (pre_b (List.drop 6 cX0_hasCell.data.toList) [182, 0, 102] && Nat.beq (0 * 256 + 102) 102) = true ∧ (pre_b (List.drop 9 cX0_hasCell.data.toList) [162, 0, 7] && decide (Reader.signed 16 (0 * 256 + 7) = 7)) = true ∧ (pre_b (List.drop 12 cX0_hasCell.data.toList) [4]) = true ∧ (pre_b (List.drop 13 cX0_hasCell.data.toList) [167, 0, 4] && decide (Reader.signed 16 (0 * 256 + 4) = 4)) = true ∧ (pre_b (List.drop 16 cX0_hasCell.data.toList) [3]) = true ∧ (pre_b (List.drop 17 cX0_hasCell.data.toList) [172]) = true := by decide +kernel
theorem dX0_hasCell_0 : decode cX0_hasCell 0 = .ok (.iload_n 1, 1) := oq_27 bdX0_hasCell_0.1
theorem dX0_hasCell_1 : decode cX0_hasCell 1 = .ok (.ifCond .lt 15, 3) := oq_155 bdX0_hasCell_0.2.1
theorem dX0_hasCell_4 : decode cX0_hasCell 4 = .ok (.iload_n 1, 1) := oq_27 bdX0_hasCell_0.2.2.1
theorem dX0_hasCell_5 : decode cX0_hasCell 5 = .ok (.aload_n 0, 1) := oq_42 bdX0_hasCell_0.2.2.2.1
theorem dX0_hasCell_6 : decode cX0_hasCell 6 = .ok (.invokevirtual 102, 3) := oq_182 bdX0_hasCell_0.2.2.2.2.1
theorem dX0_hasCell_9 : decode cX0_hasCell 9 = .ok (.if_icmp .ge 7, 3) := oq_162 bdX0_hasCell_0.2.2.2.2.2.1
theorem dX0_hasCell_12 : decode cX0_hasCell 12 = .ok (.iconst 1, 1) := oq_4 bdX0_hasCell_0.2.2.2.2.2.2.1
theorem dX0_hasCell_13 : decode cX0_hasCell 13 = .ok (.goto 4, 3) := oq_167 bdX0_hasCell_0.2.2.2.2.2.2.2.1
theorem dX0_hasCell_16 : decode cX0_hasCell 16 = .ok (.iconst 0, 1) := oq_3 bdX0_hasCell_0.2.2.2.2.2.2.2.2.1
theorem dX0_hasCell_17 : decode cX0_hasCell 17 = .ok (.ireturn, 1) := oq_172 bdX0_hasCell_0.2.2.2.2.2.2.2.2.2
theorem bdX0_setLost_0 : (pre_b (List.drop 0 cX0_setLost.data.toList) [42]) = true ∧ (pre_b (List.drop 1 cX0_setLost.data.toList) [27]) = true ∧ (pre_b (List.drop 2 cX0_setLost.data.toList) [182, 0, 72] && Nat.beq (0 * 256 + 72) 72) = true ∧ (pre_b (List.drop 5 cX0_setLost.data.toList) [153, 0, 10] && decide (Reader.signed 16 (0 * 256 + 10) = 10)) = true ∧ (pre_b (List.drop 8 cX0_setLost.data.toList) [42]) = true ∧ (pre_b (List.drop 9 cX0_setLost.data.toList) [180, 0, 33] && Nat.beq (0 * 256 + 33) 33) = true ∧ (pre_b (List.drop 12 cX0_setLost.data.toList) [27]) = true ∧ (pre_b (List.drop 13 cX0_setLost.data.toList) [28]) = true ∧ (pre_b (List.drop 14 cX0_setLost.data.toList) [79]) = true ∧ (pre_b (List.drop 15 cX0_setLost.data.toList) [177]) = true := by decide +kernel
theorem dX0_setLost_0 : decode cX0_setLost 0 = .ok (.aload_n 0, 1) := oq_42 bdX0_setLost_0.1
theorem dX0_setLost_1 : decode cX0_setLost 1 = .ok (.iload_n 1, 1) := oq_27 bdX0_setLost_0.2.1
theorem dX0_setLost_2 : decode cX0_setLost 2 = .ok (.invokevirtual 72, 3) := oq_182 bdX0_setLost_0.2.2.1
theorem dX0_setLost_5 : decode cX0_setLost 5 = .ok (.ifCond .eq 10, 3) := oq_153 bdX0_setLost_0.2.2.2.1
theorem dX0_setLost_8 : decode cX0_setLost 8 = .ok (.aload_n 0, 1) := oq_42 bdX0_setLost_0.2.2.2.2.1
theorem dX0_setLost_9 : decode cX0_setLost 9 = .ok (.getfield 33, 3) := oq_180 bdX0_setLost_0.2.2.2.2.2.1
theorem dX0_setLost_12 : decode cX0_setLost 12 = .ok (.iload_n 1, 1) := oq_27 bdX0_setLost_0.2.2.2.2.2.2.1
theorem dX0_setLost_13 : decode cX0_setLost 13 = .ok (.iload_n 2, 1) := oq_28 bdX0_setLost_0.2.2.2.2.2.2.2.1
theorem dX0_setLost_14 : decode cX0_setLost 14 = .ok (.iastore, 1) := oq_79 bdX0_setLost_0.2.2.2.2.2.2.2.2.1
theorem dX0_setLost_15 : decode cX0_setLost 15 = .ok (.return_, 1) := oq_177 bdX0_setLost_0.2.2.2.2.2.2.2.2.2
theorem bdX5_byteAt_0 : (pre_b (List.drop 0 cX5_byteAt.data.toList) [27]) = true ∧ (pre_b (List.drop 1 cX5_byteAt.data.toList) [155, 0, 20] && decide (Reader.signed 16 (0 * 256 + 20) = 20)) = true ∧ (pre_b (List.drop 4 cX5_byteAt.data.toList) [27]) = true ∧ (pre_b (List.drop 5 cX5_byteAt.data.toList) [42]) = true ∧ (pre_b (List.drop 6 cX5_byteAt.data.toList) [180, 0, 15] && Nat.beq (0 * 256 + 15) 15) = true ∧ (pre_b (List.drop 9 cX5_byteAt.data.toList) [162, 0, 12] && decide (Reader.signed 16 (0 * 256 + 12) = 12)) = true ∧ (pre_b (List.drop 12 cX5_byteAt.data.toList) [42]) = true ∧ (pre_b (List.drop 13 cX5_byteAt.data.toList) [180, 0, 9] && Nat.beq (0 * 256 + 9) 9) = true ∧ (pre_b (List.drop 16 cX5_byteAt.data.toList) [27]) = true ∧ (pre_b (List.drop 17 cX5_byteAt.data.toList) [46]) = true ∧ (pre_b (List.drop 18 cX5_byteAt.data.toList) [167, 0, 4] && decide (Reader.signed 16 (0 * 256 + 4) = 4)) = true ∧ (pre_b (List.drop 21 cX5_byteAt.data.toList) [2]) = true := by decide +kernel
theorem dX5_byteAt_0 : decode cX5_byteAt 0 = .ok (.iload_n 1, 1) := oq_27 bdX5_byteAt_0.1
theorem dX5_byteAt_1 : decode cX5_byteAt 1 = .ok (.ifCond .lt 20, 3) := oq_155 bdX5_byteAt_0.2.1
theorem dX5_byteAt_4 : decode cX5_byteAt 4 = .ok (.iload_n 1, 1) := oq_27 bdX5_byteAt_0.2.2.1
theorem dX5_byteAt_5 : decode cX5_byteAt 5 = .ok (.aload_n 0, 1) := oq_42 bdX5_byteAt_0.2.2.2.1
theorem dX5_byteAt_6 : decode cX5_byteAt 6 = .ok (.getfield 15, 3) := oq_180 bdX5_byteAt_0.2.2.2.2.1
theorem dX5_byteAt_9 : decode cX5_byteAt 9 = .ok (.if_icmp .ge 12, 3) := oq_162 bdX5_byteAt_0.2.2.2.2.2.1
theorem dX5_byteAt_12 : decode cX5_byteAt 12 = .ok (.aload_n 0, 1) := oq_42 bdX5_byteAt_0.2.2.2.2.2.2.1
theorem dX5_byteAt_13 : decode cX5_byteAt 13 = .ok (.getfield 9, 3) := oq_180 bdX5_byteAt_0.2.2.2.2.2.2.2.1
theorem dX5_byteAt_16 : decode cX5_byteAt 16 = .ok (.iload_n 1, 1) := oq_27 bdX5_byteAt_0.2.2.2.2.2.2.2.2.1
theorem dX5_byteAt_17 : decode cX5_byteAt 17 = .ok (.iaload, 1) := oq_46 bdX5_byteAt_0.2.2.2.2.2.2.2.2.2.1
theorem dX5_byteAt_18 : decode cX5_byteAt 18 = .ok (.goto 4, 3) := oq_167 bdX5_byteAt_0.2.2.2.2.2.2.2.2.2.2.1
theorem dX5_byteAt_21 : decode cX5_byteAt 21 = .ok (.iconst (-1), 1) := oq_2 bdX5_byteAt_0.2.2.2.2.2.2.2.2.2.2.2
theorem bdX5_byteAt_22 : (pre_b (List.drop 22 cX5_byteAt.data.toList) [172]) = true := by decide +kernel
theorem dX5_byteAt_22 : decode cX5_byteAt 22 = .ok (.ireturn, 1) := oq_172 bdX5_byteAt_22
theorem bdX0_addDrum_0 : (pre_b (List.drop 0 cX0_addDrum.data.toList) [42]) = true ∧ (pre_b (List.drop 1 cX0_addDrum.data.toList) [180, 0, 59] && Nat.beq (0 * 256 + 59) 59) = true ∧ (pre_b (List.drop 4 cX0_addDrum.data.toList) [7]) = true ∧ (pre_b (List.drop 5 cX0_addDrum.data.toList) [162, 0, 10] && decide (Reader.signed 16 (0 * 256 + 10) = 10)) = true ∧ (pre_b (List.drop 8 cX0_addDrum.data.toList) [21, 4] && Nat.beq (4) 4) = true ∧ (pre_b (List.drop 10 cX0_addDrum.data.toList) [16, 40] && decide (Reader.signed 8 (40) = 40)) = true ∧ (pre_b (List.drop 12 cX0_addDrum.data.toList) [164, 0, 4] && decide (Reader.signed 16 (0 * 256 + 4) = 4)) = true ∧ (pre_b (List.drop 15 cX0_addDrum.data.toList) [177]) = true ∧ (pre_b (List.drop 16 cX0_addDrum.data.toList) [42]) = true ∧ (pre_b (List.drop 17 cX0_addDrum.data.toList) [180, 0, 9] && Nat.beq (0 * 256 + 9) 9) = true ∧ (pre_b (List.drop 20 cX0_addDrum.data.toList) [42]) = true ∧ (pre_b (List.drop 21 cX0_addDrum.data.toList) [180, 0, 59] && Nat.beq (0 * 256 + 59) 59) = true := by decide +kernel
theorem dX0_addDrum_0 : decode cX0_addDrum 0 = .ok (.aload_n 0, 1) := oq_42 bdX0_addDrum_0.1
theorem dX0_addDrum_1 : decode cX0_addDrum 1 = .ok (.getfield 59, 3) := oq_180 bdX0_addDrum_0.2.1
theorem dX0_addDrum_4 : decode cX0_addDrum 4 = .ok (.iconst 4, 1) := oq_7 bdX0_addDrum_0.2.2.1
theorem dX0_addDrum_5 : decode cX0_addDrum 5 = .ok (.if_icmp .ge 10, 3) := oq_162 bdX0_addDrum_0.2.2.2.1
theorem dX0_addDrum_8 : decode cX0_addDrum 8 = .ok (.iload 4, 2) := oq_21 bdX0_addDrum_0.2.2.2.2.1
theorem dX0_addDrum_10 : decode cX0_addDrum 10 = .ok (.bipush 40, 2) := oq_16 bdX0_addDrum_0.2.2.2.2.2.1
theorem dX0_addDrum_12 : decode cX0_addDrum 12 = .ok (.if_icmp .le 4, 3) := oq_164 bdX0_addDrum_0.2.2.2.2.2.2.1
theorem dX0_addDrum_15 : decode cX0_addDrum 15 = .ok (.return_, 1) := oq_177 bdX0_addDrum_0.2.2.2.2.2.2.2.1
theorem dX0_addDrum_16 : decode cX0_addDrum 16 = .ok (.aload_n 0, 1) := oq_42 bdX0_addDrum_0.2.2.2.2.2.2.2.2.1
theorem dX0_addDrum_17 : decode cX0_addDrum 17 = .ok (.getfield 9, 3) := oq_180 bdX0_addDrum_0.2.2.2.2.2.2.2.2.2.1
theorem dX0_addDrum_20 : decode cX0_addDrum 20 = .ok (.aload_n 0, 1) := oq_42 bdX0_addDrum_0.2.2.2.2.2.2.2.2.2.2.1
theorem dX0_addDrum_21 : decode cX0_addDrum 21 = .ok (.getfield 59, 3) := oq_180 bdX0_addDrum_0.2.2.2.2.2.2.2.2.2.2.2
theorem bdX0_addDrum_24 : (pre_b (List.drop 24 cX0_addDrum.data.toList) [27]) = true ∧ (pre_b (List.drop 25 cX0_addDrum.data.toList) [79]) = true ∧ (pre_b (List.drop 26 cX0_addDrum.data.toList) [42]) = true ∧ (pre_b (List.drop 27 cX0_addDrum.data.toList) [180, 0, 15] && Nat.beq (0 * 256 + 15) 15) = true ∧ (pre_b (List.drop 30 cX0_addDrum.data.toList) [42]) = true ∧ (pre_b (List.drop 31 cX0_addDrum.data.toList) [180, 0, 59] && Nat.beq (0 * 256 + 59) 59) = true ∧ (pre_b (List.drop 34 cX0_addDrum.data.toList) [21, 4] && Nat.beq (4) 4) = true ∧ (pre_b (List.drop 36 cX0_addDrum.data.toList) [79]) = true ∧ (pre_b (List.drop 37 cX0_addDrum.data.toList) [3]) = true ∧ (pre_b (List.drop 38 cX0_addDrum.data.toList) [54, 5] && Nat.beq (5) 5) = true ∧ (pre_b (List.drop 40 cX0_addDrum.data.toList) [21, 5] && Nat.beq (5) 5) = true ∧ (pre_b (List.drop 42 cX0_addDrum.data.toList) [21, 4] && Nat.beq (4) 4) = true := by decide +kernel
theorem dX0_addDrum_24 : decode cX0_addDrum 24 = .ok (.iload_n 1, 1) := oq_27 bdX0_addDrum_24.1
theorem dX0_addDrum_25 : decode cX0_addDrum 25 = .ok (.iastore, 1) := oq_79 bdX0_addDrum_24.2.1
theorem dX0_addDrum_26 : decode cX0_addDrum 26 = .ok (.aload_n 0, 1) := oq_42 bdX0_addDrum_24.2.2.1
theorem dX0_addDrum_27 : decode cX0_addDrum 27 = .ok (.getfield 15, 3) := oq_180 bdX0_addDrum_24.2.2.2.1
theorem dX0_addDrum_30 : decode cX0_addDrum 30 = .ok (.aload_n 0, 1) := oq_42 bdX0_addDrum_24.2.2.2.2.1
theorem dX0_addDrum_31 : decode cX0_addDrum 31 = .ok (.getfield 59, 3) := oq_180 bdX0_addDrum_24.2.2.2.2.2.1
theorem dX0_addDrum_34 : decode cX0_addDrum 34 = .ok (.iload 4, 2) := oq_21 bdX0_addDrum_24.2.2.2.2.2.2.1
theorem dX0_addDrum_36 : decode cX0_addDrum 36 = .ok (.iastore, 1) := oq_79 bdX0_addDrum_24.2.2.2.2.2.2.2.1
theorem dX0_addDrum_37 : decode cX0_addDrum 37 = .ok (.iconst 0, 1) := oq_3 bdX0_addDrum_24.2.2.2.2.2.2.2.2.1
theorem dX0_addDrum_38 : decode cX0_addDrum 38 = .ok (.istore 5, 2) := oq_54 bdX0_addDrum_24.2.2.2.2.2.2.2.2.2.1
theorem dX0_addDrum_40 : decode cX0_addDrum 40 = .ok (.iload 5, 2) := oq_21 bdX0_addDrum_24.2.2.2.2.2.2.2.2.2.2.1
theorem dX0_addDrum_42 : decode cX0_addDrum 42 = .ok (.iload 4, 2) := oq_21 bdX0_addDrum_24.2.2.2.2.2.2.2.2.2.2.2
theorem bdX0_addDrum_44 : (pre_b (List.drop 44 cX0_addDrum.data.toList) [162, 0, 32] && decide (Reader.signed 16 (0 * 256 + 32) = 32)) = true ∧ (pre_b (List.drop 47 cX0_addDrum.data.toList) [42]) = true ∧ (pre_b (List.drop 48 cX0_addDrum.data.toList) [180, 0, 18] && Nat.beq (0 * 256 + 18) 18) = true ∧ (pre_b (List.drop 51 cX0_addDrum.data.toList) [42]) = true ∧ (pre_b (List.drop 52 cX0_addDrum.data.toList) [180, 0, 59] && Nat.beq (0 * 256 + 59) 59) = true ∧ (pre_b (List.drop 55 cX0_addDrum.data.toList) [16, 40] && decide (Reader.signed 8 (40) = 40)) = true ∧ (pre_b (List.drop 57 cX0_addDrum.data.toList) [104]) = true ∧ (pre_b (List.drop 58 cX0_addDrum.data.toList) [21, 5] && Nat.beq (5) 5) = true ∧ (pre_b (List.drop 60 cX0_addDrum.data.toList) [96]) = true ∧ (pre_b (List.drop 61 cX0_addDrum.data.toList) [44]) = true ∧ (pre_b (List.drop 62 cX0_addDrum.data.toList) [29]) = true ∧ (pre_b (List.drop 63 cX0_addDrum.data.toList) [21, 5] && Nat.beq (5) 5) = true := by decide +kernel
theorem dX0_addDrum_44 : decode cX0_addDrum 44 = .ok (.if_icmp .ge 32, 3) := oq_162 bdX0_addDrum_44.1
theorem dX0_addDrum_47 : decode cX0_addDrum 47 = .ok (.aload_n 0, 1) := oq_42 bdX0_addDrum_44.2.1
theorem dX0_addDrum_48 : decode cX0_addDrum 48 = .ok (.getfield 18, 3) := oq_180 bdX0_addDrum_44.2.2.1
theorem dX0_addDrum_51 : decode cX0_addDrum 51 = .ok (.aload_n 0, 1) := oq_42 bdX0_addDrum_44.2.2.2.1
theorem dX0_addDrum_52 : decode cX0_addDrum 52 = .ok (.getfield 59, 3) := oq_180 bdX0_addDrum_44.2.2.2.2.1
theorem dX0_addDrum_55 : decode cX0_addDrum 55 = .ok (.bipush 40, 2) := oq_16 bdX0_addDrum_44.2.2.2.2.2.1
theorem dX0_addDrum_57 : decode cX0_addDrum 57 = .ok (.imul, 1) := oq_104 bdX0_addDrum_44.2.2.2.2.2.2.1
theorem dX0_addDrum_58 : decode cX0_addDrum 58 = .ok (.iload 5, 2) := oq_21 bdX0_addDrum_44.2.2.2.2.2.2.2.1
theorem dX0_addDrum_60 : decode cX0_addDrum 60 = .ok (.iadd, 1) := oq_96 bdX0_addDrum_44.2.2.2.2.2.2.2.2.1
theorem dX0_addDrum_61 : decode cX0_addDrum 61 = .ok (.aload_n 2, 1) := oq_44 bdX0_addDrum_44.2.2.2.2.2.2.2.2.2.1
theorem dX0_addDrum_62 : decode cX0_addDrum 62 = .ok (.iload_n 3, 1) := oq_29 bdX0_addDrum_44.2.2.2.2.2.2.2.2.2.2.1
theorem dX0_addDrum_63 : decode cX0_addDrum 63 = .ok (.iload 5, 2) := oq_21 bdX0_addDrum_44.2.2.2.2.2.2.2.2.2.2.2
theorem bdX0_addDrum_65 : (pre_b (List.drop 65 cX0_addDrum.data.toList) [96]) = true ∧ (pre_b (List.drop 66 cX0_addDrum.data.toList) [182, 0, 76] && Nat.beq (0 * 256 + 76) 76) = true ∧ (pre_b (List.drop 69 cX0_addDrum.data.toList) [79]) = true ∧ (pre_b (List.drop 70 cX0_addDrum.data.toList) [132, 5, 1] && Nat.beq (5) 5 && decide (Reader.signed 8 (1) = 1)) = true ∧ (pre_b (List.drop 73 cX0_addDrum.data.toList) [167, 255, 223] && decide (Reader.signed 16 (255 * 256 + 223) = (-33))) = true ∧ (pre_b (List.drop 76 cX0_addDrum.data.toList) [42]) = true ∧ (pre_b (List.drop 77 cX0_addDrum.data.toList) [89]) = true ∧ (pre_b (List.drop 78 cX0_addDrum.data.toList) [180, 0, 59] && Nat.beq (0 * 256 + 59) 59) = true ∧ (pre_b (List.drop 81 cX0_addDrum.data.toList) [4]) = true ∧ (pre_b (List.drop 82 cX0_addDrum.data.toList) [96]) = true ∧ (pre_b (List.drop 83 cX0_addDrum.data.toList) [181, 0, 59] && Nat.beq (0 * 256 + 59) 59) = true ∧ (pre_b (List.drop 86 cX0_addDrum.data.toList) [177]) = true := by decide +kernel
theorem dX0_addDrum_65 : decode cX0_addDrum 65 = .ok (.iadd, 1) := oq_96 bdX0_addDrum_65.1
theorem dX0_addDrum_66 : decode cX0_addDrum 66 = .ok (.invokevirtual 76, 3) := oq_182 bdX0_addDrum_65.2.1
theorem dX0_addDrum_69 : decode cX0_addDrum 69 = .ok (.iastore, 1) := oq_79 bdX0_addDrum_65.2.2.1
theorem dX0_addDrum_70 : decode cX0_addDrum 70 = .ok (.iinc 5 1, 3) := oq_132 bdX0_addDrum_65.2.2.2.1
theorem dX0_addDrum_73 : decode cX0_addDrum 73 = .ok (.goto (-33), 3) := oq_167 bdX0_addDrum_65.2.2.2.2.1
theorem dX0_addDrum_76 : decode cX0_addDrum 76 = .ok (.aload_n 0, 1) := oq_42 bdX0_addDrum_65.2.2.2.2.2.1
theorem dX0_addDrum_77 : decode cX0_addDrum 77 = .ok (.dup, 1) := oq_89 bdX0_addDrum_65.2.2.2.2.2.2.1
theorem dX0_addDrum_78 : decode cX0_addDrum 78 = .ok (.getfield 59, 3) := oq_180 bdX0_addDrum_65.2.2.2.2.2.2.2.1
theorem dX0_addDrum_81 : decode cX0_addDrum 81 = .ok (.iconst 1, 1) := oq_4 bdX0_addDrum_65.2.2.2.2.2.2.2.2.1
theorem dX0_addDrum_82 : decode cX0_addDrum 82 = .ok (.iadd, 1) := oq_96 bdX0_addDrum_65.2.2.2.2.2.2.2.2.2.1
theorem dX0_addDrum_83 : decode cX0_addDrum 83 = .ok (.putfield 59, 3) := oq_181 bdX0_addDrum_65.2.2.2.2.2.2.2.2.2.2.1
theorem dX0_addDrum_86 : decode cX0_addDrum 86 = .ok (.return_, 1) := oq_177 bdX0_addDrum_65.2.2.2.2.2.2.2.2.2.2.2
theorem bdX0_copyAllButLog_0 : (pre_b (List.drop 0 cX0_copyAllButLog.data.toList) [42]) = true ∧ (pre_b (List.drop 1 cX0_copyAllButLog.data.toList) [43]) = true ∧ (pre_b (List.drop 2 cX0_copyAllButLog.data.toList) [180, 0, 49] && Nat.beq (0 * 256 + 49) 49) = true ∧ (pre_b (List.drop 5 cX0_copyAllButLog.data.toList) [181, 0, 49] && Nat.beq (0 * 256 + 49) 49) = true ∧ (pre_b (List.drop 8 cX0_copyAllButLog.data.toList) [42]) = true ∧ (pre_b (List.drop 9 cX0_copyAllButLog.data.toList) [43]) = true ∧ (pre_b (List.drop 10 cX0_copyAllButLog.data.toList) [180, 0, 53] && Nat.beq (0 * 256 + 53) 53) = true ∧ (pre_b (List.drop 13 cX0_copyAllButLog.data.toList) [181, 0, 53] && Nat.beq (0 * 256 + 53) 53) = true ∧ (pre_b (List.drop 16 cX0_copyAllButLog.data.toList) [42]) = true ∧ (pre_b (List.drop 17 cX0_copyAllButLog.data.toList) [43]) = true ∧ (pre_b (List.drop 18 cX0_copyAllButLog.data.toList) [180, 0, 56] && Nat.beq (0 * 256 + 56) 56) = true ∧ (pre_b (List.drop 21 cX0_copyAllButLog.data.toList) [181, 0, 56] && Nat.beq (0 * 256 + 56) 56) = true := by decide +kernel
theorem dX0_copyAllButLog_0 : decode cX0_copyAllButLog 0 = .ok (.aload_n 0, 1) := oq_42 bdX0_copyAllButLog_0.1
theorem dX0_copyAllButLog_1 : decode cX0_copyAllButLog 1 = .ok (.aload_n 1, 1) := oq_43 bdX0_copyAllButLog_0.2.1
theorem dX0_copyAllButLog_2 : decode cX0_copyAllButLog 2 = .ok (.getfield 49, 3) := oq_180 bdX0_copyAllButLog_0.2.2.1
theorem dX0_copyAllButLog_5 : decode cX0_copyAllButLog 5 = .ok (.putfield 49, 3) := oq_181 bdX0_copyAllButLog_0.2.2.2.1
theorem dX0_copyAllButLog_8 : decode cX0_copyAllButLog 8 = .ok (.aload_n 0, 1) := oq_42 bdX0_copyAllButLog_0.2.2.2.2.1
theorem dX0_copyAllButLog_9 : decode cX0_copyAllButLog 9 = .ok (.aload_n 1, 1) := oq_43 bdX0_copyAllButLog_0.2.2.2.2.2.1
theorem dX0_copyAllButLog_10 : decode cX0_copyAllButLog 10 = .ok (.getfield 53, 3) := oq_180 bdX0_copyAllButLog_0.2.2.2.2.2.2.1
theorem dX0_copyAllButLog_13 : decode cX0_copyAllButLog 13 = .ok (.putfield 53, 3) := oq_181 bdX0_copyAllButLog_0.2.2.2.2.2.2.2.1
theorem dX0_copyAllButLog_16 : decode cX0_copyAllButLog 16 = .ok (.aload_n 0, 1) := oq_42 bdX0_copyAllButLog_0.2.2.2.2.2.2.2.2.1
theorem dX0_copyAllButLog_17 : decode cX0_copyAllButLog 17 = .ok (.aload_n 1, 1) := oq_43 bdX0_copyAllButLog_0.2.2.2.2.2.2.2.2.2.1
theorem dX0_copyAllButLog_18 : decode cX0_copyAllButLog 18 = .ok (.getfield 56, 3) := oq_180 bdX0_copyAllButLog_0.2.2.2.2.2.2.2.2.2.2.1
theorem dX0_copyAllButLog_21 : decode cX0_copyAllButLog 21 = .ok (.putfield 56, 3) := oq_181 bdX0_copyAllButLog_0.2.2.2.2.2.2.2.2.2.2.2
theorem bdX0_copyAllButLog_24 : (pre_b (List.drop 24 cX0_copyAllButLog.data.toList) [42]) = true ∧ (pre_b (List.drop 25 cX0_copyAllButLog.data.toList) [43]) = true ∧ (pre_b (List.drop 26 cX0_copyAllButLog.data.toList) [180, 0, 59] && Nat.beq (0 * 256 + 59) 59) = true ∧ (pre_b (List.drop 29 cX0_copyAllButLog.data.toList) [181, 0, 59] && Nat.beq (0 * 256 + 59) 59) = true ∧ (pre_b (List.drop 32 cX0_copyAllButLog.data.toList) [42]) = true ∧ (pre_b (List.drop 33 cX0_copyAllButLog.data.toList) [43]) = true ∧ (pre_b (List.drop 34 cX0_copyAllButLog.data.toList) [180, 0, 62] && Nat.beq (0 * 256 + 62) 62) = true ∧ (pre_b (List.drop 37 cX0_copyAllButLog.data.toList) [181, 0, 62] && Nat.beq (0 * 256 + 62) 62) = true ∧ (pre_b (List.drop 40 cX0_copyAllButLog.data.toList) [42]) = true ∧ (pre_b (List.drop 41 cX0_copyAllButLog.data.toList) [43]) = true ∧ (pre_b (List.drop 42 cX0_copyAllButLog.data.toList) [180, 0, 65] && Nat.beq (0 * 256 + 65) 65) = true ∧ (pre_b (List.drop 45 cX0_copyAllButLog.data.toList) [181, 0, 65] && Nat.beq (0 * 256 + 65) 65) = true := by decide +kernel
theorem dX0_copyAllButLog_24 : decode cX0_copyAllButLog 24 = .ok (.aload_n 0, 1) := oq_42 bdX0_copyAllButLog_24.1
theorem dX0_copyAllButLog_25 : decode cX0_copyAllButLog 25 = .ok (.aload_n 1, 1) := oq_43 bdX0_copyAllButLog_24.2.1
theorem dX0_copyAllButLog_26 : decode cX0_copyAllButLog 26 = .ok (.getfield 59, 3) := oq_180 bdX0_copyAllButLog_24.2.2.1
theorem dX0_copyAllButLog_29 : decode cX0_copyAllButLog 29 = .ok (.putfield 59, 3) := oq_181 bdX0_copyAllButLog_24.2.2.2.1
theorem dX0_copyAllButLog_32 : decode cX0_copyAllButLog 32 = .ok (.aload_n 0, 1) := oq_42 bdX0_copyAllButLog_24.2.2.2.2.1
theorem dX0_copyAllButLog_33 : decode cX0_copyAllButLog 33 = .ok (.aload_n 1, 1) := oq_43 bdX0_copyAllButLog_24.2.2.2.2.2.1
theorem dX0_copyAllButLog_34 : decode cX0_copyAllButLog 34 = .ok (.getfield 62, 3) := oq_180 bdX0_copyAllButLog_24.2.2.2.2.2.2.1
theorem dX0_copyAllButLog_37 : decode cX0_copyAllButLog 37 = .ok (.putfield 62, 3) := oq_181 bdX0_copyAllButLog_24.2.2.2.2.2.2.2.1
theorem dX0_copyAllButLog_40 : decode cX0_copyAllButLog 40 = .ok (.aload_n 0, 1) := oq_42 bdX0_copyAllButLog_24.2.2.2.2.2.2.2.2.1
theorem dX0_copyAllButLog_41 : decode cX0_copyAllButLog 41 = .ok (.aload_n 1, 1) := oq_43 bdX0_copyAllButLog_24.2.2.2.2.2.2.2.2.2.1
theorem dX0_copyAllButLog_42 : decode cX0_copyAllButLog 42 = .ok (.getfield 65, 3) := oq_180 bdX0_copyAllButLog_24.2.2.2.2.2.2.2.2.2.2.1
theorem dX0_copyAllButLog_45 : decode cX0_copyAllButLog 45 = .ok (.putfield 65, 3) := oq_181 bdX0_copyAllButLog_24.2.2.2.2.2.2.2.2.2.2.2
theorem bdX0_copyAllButLog_48 : (pre_b (List.drop 48 cX0_copyAllButLog.data.toList) [43]) = true ∧ (pre_b (List.drop 49 cX0_copyAllButLog.data.toList) [180, 0, 9] && Nat.beq (0 * 256 + 9) 9) = true ∧ (pre_b (List.drop 52 cX0_copyAllButLog.data.toList) [3]) = true ∧ (pre_b (List.drop 53 cX0_copyAllButLog.data.toList) [42]) = true ∧ (pre_b (List.drop 54 cX0_copyAllButLog.data.toList) [180, 0, 9] && Nat.beq (0 * 256 + 9) 9) = true ∧ (pre_b (List.drop 57 cX0_copyAllButLog.data.toList) [3]) = true ∧ (pre_b (List.drop 58 cX0_copyAllButLog.data.toList) [7]) = true ∧ (pre_b (List.drop 59 cX0_copyAllButLog.data.toList) [184, 0, 96] && Nat.beq (0 * 256 + 96) 96) = true ∧ (pre_b (List.drop 62 cX0_copyAllButLog.data.toList) [43]) = true ∧ (pre_b (List.drop 63 cX0_copyAllButLog.data.toList) [180, 0, 15] && Nat.beq (0 * 256 + 15) 15) = true ∧ (pre_b (List.drop 66 cX0_copyAllButLog.data.toList) [3]) = true ∧ (pre_b (List.drop 67 cX0_copyAllButLog.data.toList) [42]) = true := by decide +kernel
theorem dX0_copyAllButLog_48 : decode cX0_copyAllButLog 48 = .ok (.aload_n 1, 1) := oq_43 bdX0_copyAllButLog_48.1
theorem dX0_copyAllButLog_49 : decode cX0_copyAllButLog 49 = .ok (.getfield 9, 3) := oq_180 bdX0_copyAllButLog_48.2.1
theorem dX0_copyAllButLog_52 : decode cX0_copyAllButLog 52 = .ok (.iconst 0, 1) := oq_3 bdX0_copyAllButLog_48.2.2.1
theorem dX0_copyAllButLog_53 : decode cX0_copyAllButLog 53 = .ok (.aload_n 0, 1) := oq_42 bdX0_copyAllButLog_48.2.2.2.1
theorem dX0_copyAllButLog_54 : decode cX0_copyAllButLog 54 = .ok (.getfield 9, 3) := oq_180 bdX0_copyAllButLog_48.2.2.2.2.1
theorem dX0_copyAllButLog_57 : decode cX0_copyAllButLog 57 = .ok (.iconst 0, 1) := oq_3 bdX0_copyAllButLog_48.2.2.2.2.2.1
theorem dX0_copyAllButLog_58 : decode cX0_copyAllButLog 58 = .ok (.iconst 4, 1) := oq_7 bdX0_copyAllButLog_48.2.2.2.2.2.2.1
theorem dX0_copyAllButLog_59 : decode cX0_copyAllButLog 59 = .ok (.invokestatic 96, 3) := oq_184 bdX0_copyAllButLog_48.2.2.2.2.2.2.2.1
theorem dX0_copyAllButLog_62 : decode cX0_copyAllButLog 62 = .ok (.aload_n 1, 1) := oq_43 bdX0_copyAllButLog_48.2.2.2.2.2.2.2.2.1
theorem dX0_copyAllButLog_63 : decode cX0_copyAllButLog 63 = .ok (.getfield 15, 3) := oq_180 bdX0_copyAllButLog_48.2.2.2.2.2.2.2.2.2.1
theorem dX0_copyAllButLog_66 : decode cX0_copyAllButLog 66 = .ok (.iconst 0, 1) := oq_3 bdX0_copyAllButLog_48.2.2.2.2.2.2.2.2.2.2.1
theorem dX0_copyAllButLog_67 : decode cX0_copyAllButLog 67 = .ok (.aload_n 0, 1) := oq_42 bdX0_copyAllButLog_48.2.2.2.2.2.2.2.2.2.2.2
theorem bdX0_copyAllButLog_68 : (pre_b (List.drop 68 cX0_copyAllButLog.data.toList) [180, 0, 15] && Nat.beq (0 * 256 + 15) 15) = true ∧ (pre_b (List.drop 71 cX0_copyAllButLog.data.toList) [3]) = true ∧ (pre_b (List.drop 72 cX0_copyAllButLog.data.toList) [7]) = true ∧ (pre_b (List.drop 73 cX0_copyAllButLog.data.toList) [184, 0, 96] && Nat.beq (0 * 256 + 96) 96) = true ∧ (pre_b (List.drop 76 cX0_copyAllButLog.data.toList) [43]) = true ∧ (pre_b (List.drop 77 cX0_copyAllButLog.data.toList) [180, 0, 18] && Nat.beq (0 * 256 + 18) 18) = true ∧ (pre_b (List.drop 80 cX0_copyAllButLog.data.toList) [3]) = true ∧ (pre_b (List.drop 81 cX0_copyAllButLog.data.toList) [42]) = true ∧ (pre_b (List.drop 82 cX0_copyAllButLog.data.toList) [180, 0, 18] && Nat.beq (0 * 256 + 18) 18) = true ∧ (pre_b (List.drop 85 cX0_copyAllButLog.data.toList) [3]) = true ∧ (pre_b (List.drop 86 cX0_copyAllButLog.data.toList) [17, 0, 160] && decide (Reader.signed 16 (0 * 256 + 160) = 160)) = true ∧ (pre_b (List.drop 89 cX0_copyAllButLog.data.toList) [184, 0, 96] && Nat.beq (0 * 256 + 96) 96) = true := by decide +kernel
theorem dX0_copyAllButLog_68 : decode cX0_copyAllButLog 68 = .ok (.getfield 15, 3) := oq_180 bdX0_copyAllButLog_68.1
theorem dX0_copyAllButLog_71 : decode cX0_copyAllButLog 71 = .ok (.iconst 0, 1) := oq_3 bdX0_copyAllButLog_68.2.1
theorem dX0_copyAllButLog_72 : decode cX0_copyAllButLog 72 = .ok (.iconst 4, 1) := oq_7 bdX0_copyAllButLog_68.2.2.1
theorem dX0_copyAllButLog_73 : decode cX0_copyAllButLog 73 = .ok (.invokestatic 96, 3) := oq_184 bdX0_copyAllButLog_68.2.2.2.1
theorem dX0_copyAllButLog_76 : decode cX0_copyAllButLog 76 = .ok (.aload_n 1, 1) := oq_43 bdX0_copyAllButLog_68.2.2.2.2.1
theorem dX0_copyAllButLog_77 : decode cX0_copyAllButLog 77 = .ok (.getfield 18, 3) := oq_180 bdX0_copyAllButLog_68.2.2.2.2.2.1
theorem dX0_copyAllButLog_80 : decode cX0_copyAllButLog 80 = .ok (.iconst 0, 1) := oq_3 bdX0_copyAllButLog_68.2.2.2.2.2.2.1
theorem dX0_copyAllButLog_81 : decode cX0_copyAllButLog 81 = .ok (.aload_n 0, 1) := oq_42 bdX0_copyAllButLog_68.2.2.2.2.2.2.2.1
theorem dX0_copyAllButLog_82 : decode cX0_copyAllButLog 82 = .ok (.getfield 18, 3) := oq_180 bdX0_copyAllButLog_68.2.2.2.2.2.2.2.2.1
theorem dX0_copyAllButLog_85 : decode cX0_copyAllButLog 85 = .ok (.iconst 0, 1) := oq_3 bdX0_copyAllButLog_68.2.2.2.2.2.2.2.2.2.1
theorem dX0_copyAllButLog_86 : decode cX0_copyAllButLog 86 = .ok (.sipush 160, 3) := oq_17 bdX0_copyAllButLog_68.2.2.2.2.2.2.2.2.2.2.1
theorem dX0_copyAllButLog_89 : decode cX0_copyAllButLog 89 = .ok (.invokestatic 96, 3) := oq_184 bdX0_copyAllButLog_68.2.2.2.2.2.2.2.2.2.2.2
theorem bdX0_copyAllButLog_92 : (pre_b (List.drop 92 cX0_copyAllButLog.data.toList) [43]) = true ∧ (pre_b (List.drop 93 cX0_copyAllButLog.data.toList) [182, 0, 102] && Nat.beq (0 * 256 + 102) 102) = true ∧ (pre_b (List.drop 96 cX0_copyAllButLog.data.toList) [61]) = true ∧ (pre_b (List.drop 97 cX0_copyAllButLog.data.toList) [43]) = true ∧ (pre_b (List.drop 98 cX0_copyAllButLog.data.toList) [180, 0, 21] && Nat.beq (0 * 256 + 21) 21) = true ∧ (pre_b (List.drop 101 cX0_copyAllButLog.data.toList) [3]) = true ∧ (pre_b (List.drop 102 cX0_copyAllButLog.data.toList) [42]) = true ∧ (pre_b (List.drop 103 cX0_copyAllButLog.data.toList) [180, 0, 21] && Nat.beq (0 * 256 + 21) 21) = true ∧ (pre_b (List.drop 106 cX0_copyAllButLog.data.toList) [3]) = true ∧ (pre_b (List.drop 107 cX0_copyAllButLog.data.toList) [28]) = true ∧ (pre_b (List.drop 108 cX0_copyAllButLog.data.toList) [184, 0, 96] && Nat.beq (0 * 256 + 96) 96) = true ∧ (pre_b (List.drop 111 cX0_copyAllButLog.data.toList) [43]) = true := by decide +kernel
theorem dX0_copyAllButLog_92 : decode cX0_copyAllButLog 92 = .ok (.aload_n 1, 1) := oq_43 bdX0_copyAllButLog_92.1
theorem dX0_copyAllButLog_93 : decode cX0_copyAllButLog 93 = .ok (.invokevirtual 102, 3) := oq_182 bdX0_copyAllButLog_92.2.1
theorem dX0_copyAllButLog_96 : decode cX0_copyAllButLog 96 = .ok (.istore_n 2, 1) := oq_61 bdX0_copyAllButLog_92.2.2.1
theorem dX0_copyAllButLog_97 : decode cX0_copyAllButLog 97 = .ok (.aload_n 1, 1) := oq_43 bdX0_copyAllButLog_92.2.2.2.1
theorem dX0_copyAllButLog_98 : decode cX0_copyAllButLog 98 = .ok (.getfield 21, 3) := oq_180 bdX0_copyAllButLog_92.2.2.2.2.1
theorem dX0_copyAllButLog_101 : decode cX0_copyAllButLog 101 = .ok (.iconst 0, 1) := oq_3 bdX0_copyAllButLog_92.2.2.2.2.2.1
theorem dX0_copyAllButLog_102 : decode cX0_copyAllButLog 102 = .ok (.aload_n 0, 1) := oq_42 bdX0_copyAllButLog_92.2.2.2.2.2.2.1
theorem dX0_copyAllButLog_103 : decode cX0_copyAllButLog 103 = .ok (.getfield 21, 3) := oq_180 bdX0_copyAllButLog_92.2.2.2.2.2.2.2.1
theorem dX0_copyAllButLog_106 : decode cX0_copyAllButLog 106 = .ok (.iconst 0, 1) := oq_3 bdX0_copyAllButLog_92.2.2.2.2.2.2.2.2.1
theorem dX0_copyAllButLog_107 : decode cX0_copyAllButLog 107 = .ok (.iload_n 2, 1) := oq_28 bdX0_copyAllButLog_92.2.2.2.2.2.2.2.2.2.1
theorem dX0_copyAllButLog_108 : decode cX0_copyAllButLog 108 = .ok (.invokestatic 96, 3) := oq_184 bdX0_copyAllButLog_92.2.2.2.2.2.2.2.2.2.2.1
theorem dX0_copyAllButLog_111 : decode cX0_copyAllButLog 111 = .ok (.aload_n 1, 1) := oq_43 bdX0_copyAllButLog_92.2.2.2.2.2.2.2.2.2.2.2
theorem bdX0_copyAllButLog_112 : (pre_b (List.drop 112 cX0_copyAllButLog.data.toList) [180, 0, 24] && Nat.beq (0 * 256 + 24) 24) = true ∧ (pre_b (List.drop 115 cX0_copyAllButLog.data.toList) [3]) = true ∧ (pre_b (List.drop 116 cX0_copyAllButLog.data.toList) [42]) = true ∧ (pre_b (List.drop 117 cX0_copyAllButLog.data.toList) [180, 0, 24] && Nat.beq (0 * 256 + 24) 24) = true ∧ (pre_b (List.drop 120 cX0_copyAllButLog.data.toList) [3]) = true ∧ (pre_b (List.drop 121 cX0_copyAllButLog.data.toList) [28]) = true ∧ (pre_b (List.drop 122 cX0_copyAllButLog.data.toList) [184, 0, 96] && Nat.beq (0 * 256 + 96) 96) = true ∧ (pre_b (List.drop 125 cX0_copyAllButLog.data.toList) [43]) = true ∧ (pre_b (List.drop 126 cX0_copyAllButLog.data.toList) [180, 0, 27] && Nat.beq (0 * 256 + 27) 27) = true ∧ (pre_b (List.drop 129 cX0_copyAllButLog.data.toList) [3]) = true ∧ (pre_b (List.drop 130 cX0_copyAllButLog.data.toList) [42]) = true ∧ (pre_b (List.drop 131 cX0_copyAllButLog.data.toList) [180, 0, 27] && Nat.beq (0 * 256 + 27) 27) = true := by decide +kernel
theorem dX0_copyAllButLog_112 : decode cX0_copyAllButLog 112 = .ok (.getfield 24, 3) := oq_180 bdX0_copyAllButLog_112.1
theorem dX0_copyAllButLog_115 : decode cX0_copyAllButLog 115 = .ok (.iconst 0, 1) := oq_3 bdX0_copyAllButLog_112.2.1
theorem dX0_copyAllButLog_116 : decode cX0_copyAllButLog 116 = .ok (.aload_n 0, 1) := oq_42 bdX0_copyAllButLog_112.2.2.1
theorem dX0_copyAllButLog_117 : decode cX0_copyAllButLog 117 = .ok (.getfield 24, 3) := oq_180 bdX0_copyAllButLog_112.2.2.2.1
theorem dX0_copyAllButLog_120 : decode cX0_copyAllButLog 120 = .ok (.iconst 0, 1) := oq_3 bdX0_copyAllButLog_112.2.2.2.2.1
theorem dX0_copyAllButLog_121 : decode cX0_copyAllButLog 121 = .ok (.iload_n 2, 1) := oq_28 bdX0_copyAllButLog_112.2.2.2.2.2.1
theorem dX0_copyAllButLog_122 : decode cX0_copyAllButLog 122 = .ok (.invokestatic 96, 3) := oq_184 bdX0_copyAllButLog_112.2.2.2.2.2.2.1
theorem dX0_copyAllButLog_125 : decode cX0_copyAllButLog 125 = .ok (.aload_n 1, 1) := oq_43 bdX0_copyAllButLog_112.2.2.2.2.2.2.2.1
theorem dX0_copyAllButLog_126 : decode cX0_copyAllButLog 126 = .ok (.getfield 27, 3) := oq_180 bdX0_copyAllButLog_112.2.2.2.2.2.2.2.2.1
theorem dX0_copyAllButLog_129 : decode cX0_copyAllButLog 129 = .ok (.iconst 0, 1) := oq_3 bdX0_copyAllButLog_112.2.2.2.2.2.2.2.2.2.1
theorem dX0_copyAllButLog_130 : decode cX0_copyAllButLog 130 = .ok (.aload_n 0, 1) := oq_42 bdX0_copyAllButLog_112.2.2.2.2.2.2.2.2.2.2.1
theorem dX0_copyAllButLog_131 : decode cX0_copyAllButLog 131 = .ok (.getfield 27, 3) := oq_180 bdX0_copyAllButLog_112.2.2.2.2.2.2.2.2.2.2.2
theorem bdX0_copyAllButLog_134 : (pre_b (List.drop 134 cX0_copyAllButLog.data.toList) [3]) = true ∧ (pre_b (List.drop 135 cX0_copyAllButLog.data.toList) [28]) = true ∧ (pre_b (List.drop 136 cX0_copyAllButLog.data.toList) [184, 0, 96] && Nat.beq (0 * 256 + 96) 96) = true ∧ (pre_b (List.drop 139 cX0_copyAllButLog.data.toList) [43]) = true ∧ (pre_b (List.drop 140 cX0_copyAllButLog.data.toList) [180, 0, 30] && Nat.beq (0 * 256 + 30) 30) = true ∧ (pre_b (List.drop 143 cX0_copyAllButLog.data.toList) [3]) = true ∧ (pre_b (List.drop 144 cX0_copyAllButLog.data.toList) [42]) = true ∧ (pre_b (List.drop 145 cX0_copyAllButLog.data.toList) [180, 0, 30] && Nat.beq (0 * 256 + 30) 30) = true ∧ (pre_b (List.drop 148 cX0_copyAllButLog.data.toList) [3]) = true ∧ (pre_b (List.drop 149 cX0_copyAllButLog.data.toList) [28]) = true ∧ (pre_b (List.drop 150 cX0_copyAllButLog.data.toList) [184, 0, 96] && Nat.beq (0 * 256 + 96) 96) = true ∧ (pre_b (List.drop 153 cX0_copyAllButLog.data.toList) [43]) = true := by decide +kernel
theorem dX0_copyAllButLog_134 : decode cX0_copyAllButLog 134 = .ok (.iconst 0, 1) := oq_3 bdX0_copyAllButLog_134.1
theorem dX0_copyAllButLog_135 : decode cX0_copyAllButLog 135 = .ok (.iload_n 2, 1) := oq_28 bdX0_copyAllButLog_134.2.1
theorem dX0_copyAllButLog_136 : decode cX0_copyAllButLog 136 = .ok (.invokestatic 96, 3) := oq_184 bdX0_copyAllButLog_134.2.2.1
theorem dX0_copyAllButLog_139 : decode cX0_copyAllButLog 139 = .ok (.aload_n 1, 1) := oq_43 bdX0_copyAllButLog_134.2.2.2.1
theorem dX0_copyAllButLog_140 : decode cX0_copyAllButLog 140 = .ok (.getfield 30, 3) := oq_180 bdX0_copyAllButLog_134.2.2.2.2.1
theorem dX0_copyAllButLog_143 : decode cX0_copyAllButLog 143 = .ok (.iconst 0, 1) := oq_3 bdX0_copyAllButLog_134.2.2.2.2.2.1
theorem dX0_copyAllButLog_144 : decode cX0_copyAllButLog 144 = .ok (.aload_n 0, 1) := oq_42 bdX0_copyAllButLog_134.2.2.2.2.2.2.1
theorem dX0_copyAllButLog_145 : decode cX0_copyAllButLog 145 = .ok (.getfield 30, 3) := oq_180 bdX0_copyAllButLog_134.2.2.2.2.2.2.2.1
theorem dX0_copyAllButLog_148 : decode cX0_copyAllButLog 148 = .ok (.iconst 0, 1) := oq_3 bdX0_copyAllButLog_134.2.2.2.2.2.2.2.2.1
theorem dX0_copyAllButLog_149 : decode cX0_copyAllButLog 149 = .ok (.iload_n 2, 1) := oq_28 bdX0_copyAllButLog_134.2.2.2.2.2.2.2.2.2.1
theorem dX0_copyAllButLog_150 : decode cX0_copyAllButLog 150 = .ok (.invokestatic 96, 3) := oq_184 bdX0_copyAllButLog_134.2.2.2.2.2.2.2.2.2.2.1
theorem dX0_copyAllButLog_153 : decode cX0_copyAllButLog 153 = .ok (.aload_n 1, 1) := oq_43 bdX0_copyAllButLog_134.2.2.2.2.2.2.2.2.2.2.2
theorem bdX0_copyAllButLog_154 : (pre_b (List.drop 154 cX0_copyAllButLog.data.toList) [180, 0, 33] && Nat.beq (0 * 256 + 33) 33) = true ∧ (pre_b (List.drop 157 cX0_copyAllButLog.data.toList) [3]) = true ∧ (pre_b (List.drop 158 cX0_copyAllButLog.data.toList) [42]) = true ∧ (pre_b (List.drop 159 cX0_copyAllButLog.data.toList) [180, 0, 33] && Nat.beq (0 * 256 + 33) 33) = true ∧ (pre_b (List.drop 162 cX0_copyAllButLog.data.toList) [3]) = true ∧ (pre_b (List.drop 163 cX0_copyAllButLog.data.toList) [28]) = true ∧ (pre_b (List.drop 164 cX0_copyAllButLog.data.toList) [184, 0, 96] && Nat.beq (0 * 256 + 96) 96) = true ∧ (pre_b (List.drop 167 cX0_copyAllButLog.data.toList) [43]) = true ∧ (pre_b (List.drop 168 cX0_copyAllButLog.data.toList) [180, 0, 36] && Nat.beq (0 * 256 + 36) 36) = true ∧ (pre_b (List.drop 171 cX0_copyAllButLog.data.toList) [3]) = true ∧ (pre_b (List.drop 172 cX0_copyAllButLog.data.toList) [42]) = true ∧ (pre_b (List.drop 173 cX0_copyAllButLog.data.toList) [180, 0, 36] && Nat.beq (0 * 256 + 36) 36) = true := by decide +kernel
theorem dX0_copyAllButLog_154 : decode cX0_copyAllButLog 154 = .ok (.getfield 33, 3) := oq_180 bdX0_copyAllButLog_154.1
theorem dX0_copyAllButLog_157 : decode cX0_copyAllButLog 157 = .ok (.iconst 0, 1) := oq_3 bdX0_copyAllButLog_154.2.1
theorem dX0_copyAllButLog_158 : decode cX0_copyAllButLog 158 = .ok (.aload_n 0, 1) := oq_42 bdX0_copyAllButLog_154.2.2.1
theorem dX0_copyAllButLog_159 : decode cX0_copyAllButLog 159 = .ok (.getfield 33, 3) := oq_180 bdX0_copyAllButLog_154.2.2.2.1
theorem dX0_copyAllButLog_162 : decode cX0_copyAllButLog 162 = .ok (.iconst 0, 1) := oq_3 bdX0_copyAllButLog_154.2.2.2.2.1
theorem dX0_copyAllButLog_163 : decode cX0_copyAllButLog 163 = .ok (.iload_n 2, 1) := oq_28 bdX0_copyAllButLog_154.2.2.2.2.2.1
theorem dX0_copyAllButLog_164 : decode cX0_copyAllButLog 164 = .ok (.invokestatic 96, 3) := oq_184 bdX0_copyAllButLog_154.2.2.2.2.2.2.1
theorem dX0_copyAllButLog_167 : decode cX0_copyAllButLog 167 = .ok (.aload_n 1, 1) := oq_43 bdX0_copyAllButLog_154.2.2.2.2.2.2.2.1
theorem dX0_copyAllButLog_168 : decode cX0_copyAllButLog 168 = .ok (.getfield 36, 3) := oq_180 bdX0_copyAllButLog_154.2.2.2.2.2.2.2.2.1
theorem dX0_copyAllButLog_171 : decode cX0_copyAllButLog 171 = .ok (.iconst 0, 1) := oq_3 bdX0_copyAllButLog_154.2.2.2.2.2.2.2.2.2.1
theorem dX0_copyAllButLog_172 : decode cX0_copyAllButLog 172 = .ok (.aload_n 0, 1) := oq_42 bdX0_copyAllButLog_154.2.2.2.2.2.2.2.2.2.2.1
theorem dX0_copyAllButLog_173 : decode cX0_copyAllButLog 173 = .ok (.getfield 36, 3) := oq_180 bdX0_copyAllButLog_154.2.2.2.2.2.2.2.2.2.2.2
theorem bdX0_copyAllButLog_176 : (pre_b (List.drop 176 cX0_copyAllButLog.data.toList) [3]) = true ∧ (pre_b (List.drop 177 cX0_copyAllButLog.data.toList) [28]) = true ∧ (pre_b (List.drop 178 cX0_copyAllButLog.data.toList) [184, 0, 96] && Nat.beq (0 * 256 + 96) 96) = true ∧ (pre_b (List.drop 181 cX0_copyAllButLog.data.toList) [43]) = true ∧ (pre_b (List.drop 182 cX0_copyAllButLog.data.toList) [180, 0, 39] && Nat.beq (0 * 256 + 39) 39) = true ∧ (pre_b (List.drop 185 cX0_copyAllButLog.data.toList) [3]) = true ∧ (pre_b (List.drop 186 cX0_copyAllButLog.data.toList) [42]) = true ∧ (pre_b (List.drop 187 cX0_copyAllButLog.data.toList) [180, 0, 39] && Nat.beq (0 * 256 + 39) 39) = true ∧ (pre_b (List.drop 190 cX0_copyAllButLog.data.toList) [3]) = true ∧ (pre_b (List.drop 191 cX0_copyAllButLog.data.toList) [28]) = true ∧ (pre_b (List.drop 192 cX0_copyAllButLog.data.toList) [184, 0, 96] && Nat.beq (0 * 256 + 96) 96) = true ∧ (pre_b (List.drop 195 cX0_copyAllButLog.data.toList) [43]) = true := by decide +kernel
theorem dX0_copyAllButLog_176 : decode cX0_copyAllButLog 176 = .ok (.iconst 0, 1) := oq_3 bdX0_copyAllButLog_176.1
theorem dX0_copyAllButLog_177 : decode cX0_copyAllButLog 177 = .ok (.iload_n 2, 1) := oq_28 bdX0_copyAllButLog_176.2.1
theorem dX0_copyAllButLog_178 : decode cX0_copyAllButLog 178 = .ok (.invokestatic 96, 3) := oq_184 bdX0_copyAllButLog_176.2.2.1
theorem dX0_copyAllButLog_181 : decode cX0_copyAllButLog 181 = .ok (.aload_n 1, 1) := oq_43 bdX0_copyAllButLog_176.2.2.2.1
theorem dX0_copyAllButLog_182 : decode cX0_copyAllButLog 182 = .ok (.getfield 39, 3) := oq_180 bdX0_copyAllButLog_176.2.2.2.2.1
theorem dX0_copyAllButLog_185 : decode cX0_copyAllButLog 185 = .ok (.iconst 0, 1) := oq_3 bdX0_copyAllButLog_176.2.2.2.2.2.1
theorem dX0_copyAllButLog_186 : decode cX0_copyAllButLog 186 = .ok (.aload_n 0, 1) := oq_42 bdX0_copyAllButLog_176.2.2.2.2.2.2.1
theorem dX0_copyAllButLog_187 : decode cX0_copyAllButLog 187 = .ok (.getfield 39, 3) := oq_180 bdX0_copyAllButLog_176.2.2.2.2.2.2.2.1
theorem dX0_copyAllButLog_190 : decode cX0_copyAllButLog 190 = .ok (.iconst 0, 1) := oq_3 bdX0_copyAllButLog_176.2.2.2.2.2.2.2.2.1
theorem dX0_copyAllButLog_191 : decode cX0_copyAllButLog 191 = .ok (.iload_n 2, 1) := oq_28 bdX0_copyAllButLog_176.2.2.2.2.2.2.2.2.2.1
theorem dX0_copyAllButLog_192 : decode cX0_copyAllButLog 192 = .ok (.invokestatic 96, 3) := oq_184 bdX0_copyAllButLog_176.2.2.2.2.2.2.2.2.2.2.1
theorem dX0_copyAllButLog_195 : decode cX0_copyAllButLog 195 = .ok (.aload_n 1, 1) := oq_43 bdX0_copyAllButLog_176.2.2.2.2.2.2.2.2.2.2.2
theorem bdX0_copyAllButLog_196 : (pre_b (List.drop 196 cX0_copyAllButLog.data.toList) [180, 0, 42] && Nat.beq (0 * 256 + 42) 42) = true ∧ (pre_b (List.drop 199 cX0_copyAllButLog.data.toList) [3]) = true ∧ (pre_b (List.drop 200 cX0_copyAllButLog.data.toList) [42]) = true ∧ (pre_b (List.drop 201 cX0_copyAllButLog.data.toList) [180, 0, 42] && Nat.beq (0 * 256 + 42) 42) = true ∧ (pre_b (List.drop 204 cX0_copyAllButLog.data.toList) [3]) = true ∧ (pre_b (List.drop 205 cX0_copyAllButLog.data.toList) [28]) = true ∧ (pre_b (List.drop 206 cX0_copyAllButLog.data.toList) [184, 0, 96] && Nat.beq (0 * 256 + 96) 96) = true ∧ (pre_b (List.drop 209 cX0_copyAllButLog.data.toList) [177]) = true := by decide +kernel
theorem dX0_copyAllButLog_196 : decode cX0_copyAllButLog 196 = .ok (.getfield 42, 3) := oq_180 bdX0_copyAllButLog_196.1
theorem dX0_copyAllButLog_199 : decode cX0_copyAllButLog 199 = .ok (.iconst 0, 1) := oq_3 bdX0_copyAllButLog_196.2.1
theorem dX0_copyAllButLog_200 : decode cX0_copyAllButLog 200 = .ok (.aload_n 0, 1) := oq_42 bdX0_copyAllButLog_196.2.2.1
theorem dX0_copyAllButLog_201 : decode cX0_copyAllButLog 201 = .ok (.getfield 42, 3) := oq_180 bdX0_copyAllButLog_196.2.2.2.1
theorem dX0_copyAllButLog_204 : decode cX0_copyAllButLog 204 = .ok (.iconst 0, 1) := oq_3 bdX0_copyAllButLog_196.2.2.2.2.1
theorem dX0_copyAllButLog_205 : decode cX0_copyAllButLog 205 = .ok (.iload_n 2, 1) := oq_28 bdX0_copyAllButLog_196.2.2.2.2.2.1
theorem dX0_copyAllButLog_206 : decode cX0_copyAllButLog 206 = .ok (.invokestatic 96, 3) := oq_184 bdX0_copyAllButLog_196.2.2.2.2.2.2.1
theorem dX0_copyAllButLog_209 : decode cX0_copyAllButLog 209 = .ok (.return_, 1) := oq_177 bdX0_copyAllButLog_196.2.2.2.2.2.2.2
theorem bdX0_entryStart_0 : (pre_b (List.drop 0 cX0_entryStart.data.toList) [3]) = true ∧ (pre_b (List.drop 1 cX0_entryStart.data.toList) [61]) = true ∧ (pre_b (List.drop 2 cX0_entryStart.data.toList) [3]) = true ∧ (pre_b (List.drop 3 cX0_entryStart.data.toList) [62]) = true ∧ (pre_b (List.drop 4 cX0_entryStart.data.toList) [29]) = true ∧ (pre_b (List.drop 5 cX0_entryStart.data.toList) [27]) = true ∧ (pre_b (List.drop 6 cX0_entryStart.data.toList) [162, 0, 33] && decide (Reader.signed 16 (0 * 256 + 33) = 33)) = true ∧ (pre_b (List.drop 9 cX0_entryStart.data.toList) [29]) = true ∧ (pre_b (List.drop 10 cX0_entryStart.data.toList) [42]) = true ∧ (pre_b (List.drop 11 cX0_entryStart.data.toList) [180, 0, 59] && Nat.beq (0 * 256 + 59) 59) = true ∧ (pre_b (List.drop 14 cX0_entryStart.data.toList) [162, 0, 25] && decide (Reader.signed 16 (0 * 256 + 25) = 25)) = true ∧ (pre_b (List.drop 17 cX0_entryStart.data.toList) [28]) = true := by decide +kernel
theorem dX0_entryStart_0 : decode cX0_entryStart 0 = .ok (.iconst 0, 1) := oq_3 bdX0_entryStart_0.1
theorem dX0_entryStart_1 : decode cX0_entryStart 1 = .ok (.istore_n 2, 1) := oq_61 bdX0_entryStart_0.2.1
theorem dX0_entryStart_2 : decode cX0_entryStart 2 = .ok (.iconst 0, 1) := oq_3 bdX0_entryStart_0.2.2.1
theorem dX0_entryStart_3 : decode cX0_entryStart 3 = .ok (.istore_n 3, 1) := oq_62 bdX0_entryStart_0.2.2.2.1
theorem dX0_entryStart_4 : decode cX0_entryStart 4 = .ok (.iload_n 3, 1) := oq_29 bdX0_entryStart_0.2.2.2.2.1
theorem dX0_entryStart_5 : decode cX0_entryStart 5 = .ok (.iload_n 1, 1) := oq_27 bdX0_entryStart_0.2.2.2.2.2.1
theorem dX0_entryStart_6 : decode cX0_entryStart 6 = .ok (.if_icmp .ge 33, 3) := oq_162 bdX0_entryStart_0.2.2.2.2.2.2.1
theorem dX0_entryStart_9 : decode cX0_entryStart 9 = .ok (.iload_n 3, 1) := oq_29 bdX0_entryStart_0.2.2.2.2.2.2.2.1
theorem dX0_entryStart_10 : decode cX0_entryStart 10 = .ok (.aload_n 0, 1) := oq_42 bdX0_entryStart_0.2.2.2.2.2.2.2.2.1
theorem dX0_entryStart_11 : decode cX0_entryStart 11 = .ok (.getfield 59, 3) := oq_180 bdX0_entryStart_0.2.2.2.2.2.2.2.2.2.1
theorem dX0_entryStart_14 : decode cX0_entryStart 14 = .ok (.if_icmp .ge 25, 3) := oq_162 bdX0_entryStart_0.2.2.2.2.2.2.2.2.2.2.1
theorem dX0_entryStart_17 : decode cX0_entryStart 17 = .ok (.iload_n 2, 1) := oq_28 bdX0_entryStart_0.2.2.2.2.2.2.2.2.2.2.2
theorem bdX0_entryStart_18 : (pre_b (List.drop 18 cX0_entryStart.data.toList) [42]) = true ∧ (pre_b (List.drop 19 cX0_entryStart.data.toList) [180, 0, 15] && Nat.beq (0 * 256 + 15) 15) = true ∧ (pre_b (List.drop 22 cX0_entryStart.data.toList) [29]) = true ∧ (pre_b (List.drop 23 cX0_entryStart.data.toList) [46]) = true ∧ (pre_b (List.drop 24 cX0_entryStart.data.toList) [42]) = true ∧ (pre_b (List.drop 25 cX0_entryStart.data.toList) [180, 0, 15] && Nat.beq (0 * 256 + 15) 15) = true ∧ (pre_b (List.drop 28 cX0_entryStart.data.toList) [29]) = true ∧ (pre_b (List.drop 29 cX0_entryStart.data.toList) [46]) = true ∧ (pre_b (List.drop 30 cX0_entryStart.data.toList) [104]) = true ∧ (pre_b (List.drop 31 cX0_entryStart.data.toList) [96]) = true ∧ (pre_b (List.drop 32 cX0_entryStart.data.toList) [61]) = true ∧ (pre_b (List.drop 33 cX0_entryStart.data.toList) [132, 3, 1] && Nat.beq (3) 3 && decide (Reader.signed 8 (1) = 1)) = true := by decide +kernel
theorem dX0_entryStart_18 : decode cX0_entryStart 18 = .ok (.aload_n 0, 1) := oq_42 bdX0_entryStart_18.1
theorem dX0_entryStart_19 : decode cX0_entryStart 19 = .ok (.getfield 15, 3) := oq_180 bdX0_entryStart_18.2.1
theorem dX0_entryStart_22 : decode cX0_entryStart 22 = .ok (.iload_n 3, 1) := oq_29 bdX0_entryStart_18.2.2.1
theorem dX0_entryStart_23 : decode cX0_entryStart 23 = .ok (.iaload, 1) := oq_46 bdX0_entryStart_18.2.2.2.1
theorem dX0_entryStart_24 : decode cX0_entryStart 24 = .ok (.aload_n 0, 1) := oq_42 bdX0_entryStart_18.2.2.2.2.1
theorem dX0_entryStart_25 : decode cX0_entryStart 25 = .ok (.getfield 15, 3) := oq_180 bdX0_entryStart_18.2.2.2.2.2.1
theorem dX0_entryStart_28 : decode cX0_entryStart 28 = .ok (.iload_n 3, 1) := oq_29 bdX0_entryStart_18.2.2.2.2.2.2.1
theorem dX0_entryStart_29 : decode cX0_entryStart 29 = .ok (.iaload, 1) := oq_46 bdX0_entryStart_18.2.2.2.2.2.2.2.1
theorem dX0_entryStart_30 : decode cX0_entryStart 30 = .ok (.imul, 1) := oq_104 bdX0_entryStart_18.2.2.2.2.2.2.2.2.1
theorem dX0_entryStart_31 : decode cX0_entryStart 31 = .ok (.iadd, 1) := oq_96 bdX0_entryStart_18.2.2.2.2.2.2.2.2.2.1
theorem dX0_entryStart_32 : decode cX0_entryStart 32 = .ok (.istore_n 2, 1) := oq_61 bdX0_entryStart_18.2.2.2.2.2.2.2.2.2.2.1
theorem dX0_entryStart_33 : decode cX0_entryStart 33 = .ok (.iinc 3 1, 3) := oq_132 bdX0_entryStart_18.2.2.2.2.2.2.2.2.2.2.2
theorem bdX0_entryStart_36 : (pre_b (List.drop 36 cX0_entryStart.data.toList) [167, 255, 224] && decide (Reader.signed 16 (255 * 256 + 224) = (-32))) = true ∧ (pre_b (List.drop 39 cX0_entryStart.data.toList) [28]) = true ∧ (pre_b (List.drop 40 cX0_entryStart.data.toList) [172]) = true := by decide +kernel
theorem dX0_entryStart_36 : decode cX0_entryStart 36 = .ok (.goto (-32), 3) := oq_167 bdX0_entryStart_36.1
theorem dX0_entryStart_39 : decode cX0_entryStart 39 = .ok (.iload_n 2, 1) := oq_28 bdX0_entryStart_36.2.1
theorem dX0_entryStart_40 : decode cX0_entryStart 40 = .ok (.ireturn, 1) := oq_172 bdX0_entryStart_36.2.2
theorem bdX0_entryCount_0 : (pre_b (List.drop 0 cX0_entryCount.data.toList) [42]) = true ∧ (pre_b (List.drop 1 cX0_entryCount.data.toList) [42]) = true ∧ (pre_b (List.drop 2 cX0_entryCount.data.toList) [180, 0, 59] && Nat.beq (0 * 256 + 59) 59) = true ∧ (pre_b (List.drop 5 cX0_entryCount.data.toList) [182, 0, 171] && Nat.beq (0 * 256 + 171) 171) = true ∧ (pre_b (List.drop 8 cX0_entryCount.data.toList) [172]) = true := by decide +kernel
theorem dX0_entryCount_0 : decode cX0_entryCount 0 = .ok (.aload_n 0, 1) := oq_42 bdX0_entryCount_0.1
theorem dX0_entryCount_1 : decode cX0_entryCount 1 = .ok (.aload_n 0, 1) := oq_42 bdX0_entryCount_0.2.1
theorem dX0_entryCount_2 : decode cX0_entryCount 2 = .ok (.getfield 59, 3) := oq_180 bdX0_entryCount_0.2.2.1
theorem dX0_entryCount_5 : decode cX0_entryCount 5 = .ok (.invokevirtual 171, 3) := oq_182 bdX0_entryCount_0.2.2.2.1
theorem dX0_entryCount_8 : decode cX0_entryCount 8 = .ok (.ireturn, 1) := oq_172 bdX0_entryCount_0.2.2.2.2
theorem bdX0_copyAll_0 : (pre_b (List.drop 0 cX0_copyAll.data.toList) [42]) = true ∧ (pre_b (List.drop 1 cX0_copyAll.data.toList) [43]) = true ∧ (pre_b (List.drop 2 cX0_copyAll.data.toList) [182, 0, 82] && Nat.beq (0 * 256 + 82) 82) = true ∧ (pre_b (List.drop 5 cX0_copyAll.data.toList) [43]) = true ∧ (pre_b (List.drop 6 cX0_copyAll.data.toList) [182, 0, 86] && Nat.beq (0 * 256 + 86) 86) = true ∧ (pre_b (List.drop 9 cX0_copyAll.data.toList) [61]) = true ∧ (pre_b (List.drop 10 cX0_copyAll.data.toList) [42]) = true ∧ (pre_b (List.drop 11 cX0_copyAll.data.toList) [180, 0, 46] && Nat.beq (0 * 256 + 46) 46) = true ∧ (pre_b (List.drop 14 cX0_copyAll.data.toList) [190]) = true ∧ (pre_b (List.drop 15 cX0_copyAll.data.toList) [28]) = true ∧ (pre_b (List.drop 16 cX0_copyAll.data.toList) [162, 0, 10] && decide (Reader.signed 16 (0 * 256 + 10) = 10)) = true ∧ (pre_b (List.drop 19 cX0_copyAll.data.toList) [42]) = true := by decide +kernel
theorem dX0_copyAll_0 : decode cX0_copyAll 0 = .ok (.aload_n 0, 1) := oq_42 bdX0_copyAll_0.1
theorem dX0_copyAll_1 : decode cX0_copyAll 1 = .ok (.aload_n 1, 1) := oq_43 bdX0_copyAll_0.2.1
theorem dX0_copyAll_2 : decode cX0_copyAll 2 = .ok (.invokevirtual 82, 3) := oq_182 bdX0_copyAll_0.2.2.1
theorem dX0_copyAll_5 : decode cX0_copyAll 5 = .ok (.aload_n 1, 1) := oq_43 bdX0_copyAll_0.2.2.2.1
theorem dX0_copyAll_6 : decode cX0_copyAll 6 = .ok (.invokevirtual 86, 3) := oq_182 bdX0_copyAll_0.2.2.2.2.1
theorem dX0_copyAll_9 : decode cX0_copyAll 9 = .ok (.istore_n 2, 1) := oq_61 bdX0_copyAll_0.2.2.2.2.2.1
theorem dX0_copyAll_10 : decode cX0_copyAll 10 = .ok (.aload_n 0, 1) := oq_42 bdX0_copyAll_0.2.2.2.2.2.2.1
theorem dX0_copyAll_11 : decode cX0_copyAll 11 = .ok (.getfield 46, 3) := oq_180 bdX0_copyAll_0.2.2.2.2.2.2.2.1
theorem dX0_copyAll_14 : decode cX0_copyAll 14 = .ok (.arraylength, 1) := oq_190 bdX0_copyAll_0.2.2.2.2.2.2.2.2.1
theorem dX0_copyAll_15 : decode cX0_copyAll 15 = .ok (.iload_n 2, 1) := oq_28 bdX0_copyAll_0.2.2.2.2.2.2.2.2.2.1
theorem dX0_copyAll_16 : decode cX0_copyAll 16 = .ok (.if_icmp .ge 10, 3) := oq_162 bdX0_copyAll_0.2.2.2.2.2.2.2.2.2.2.1
theorem dX0_copyAll_19 : decode cX0_copyAll 19 = .ok (.aload_n 0, 1) := oq_42 bdX0_copyAll_0.2.2.2.2.2.2.2.2.2.2.2
theorem bdX0_copyAll_20 : (pre_b (List.drop 20 cX0_copyAll.data.toList) [28]) = true := by decide +kernel
theorem dX0_copyAll_20 : decode cX0_copyAll 20 = .ok (.iload_n 2, 1) := oq_28 bdX0_copyAll_20
theorem dX0_copyAll_21 : decode cX0_copyAll 21 = .ok (.newarray .int, 2) := by decide +kernel
theorem bdX0_copyAll_23 : (pre_b (List.drop 23 cX0_copyAll.data.toList) [181, 0, 46] && Nat.beq (0 * 256 + 46) 46) = true ∧ (pre_b (List.drop 26 cX0_copyAll.data.toList) [43]) = true ∧ (pre_b (List.drop 27 cX0_copyAll.data.toList) [180, 0, 46] && Nat.beq (0 * 256 + 46) 46) = true ∧ (pre_b (List.drop 30 cX0_copyAll.data.toList) [3]) = true ∧ (pre_b (List.drop 31 cX0_copyAll.data.toList) [42]) = true ∧ (pre_b (List.drop 32 cX0_copyAll.data.toList) [180, 0, 46] && Nat.beq (0 * 256 + 46) 46) = true ∧ (pre_b (List.drop 35 cX0_copyAll.data.toList) [3]) = true ∧ (pre_b (List.drop 36 cX0_copyAll.data.toList) [28]) = true ∧ (pre_b (List.drop 37 cX0_copyAll.data.toList) [43]) = true ∧ (pre_b (List.drop 38 cX0_copyAll.data.toList) [180, 0, 46] && Nat.beq (0 * 256 + 46) 46) = true ∧ (pre_b (List.drop 41 cX0_copyAll.data.toList) [190]) = true ∧ (pre_b (List.drop 42 cX0_copyAll.data.toList) [184, 0, 90] && Nat.beq (0 * 256 + 90) 90) = true := by decide +kernel
theorem dX0_copyAll_23 : decode cX0_copyAll 23 = .ok (.putfield 46, 3) := oq_181 bdX0_copyAll_23.1
theorem dX0_copyAll_26 : decode cX0_copyAll 26 = .ok (.aload_n 1, 1) := oq_43 bdX0_copyAll_23.2.1
theorem dX0_copyAll_27 : decode cX0_copyAll 27 = .ok (.getfield 46, 3) := oq_180 bdX0_copyAll_23.2.2.1
theorem dX0_copyAll_30 : decode cX0_copyAll 30 = .ok (.iconst 0, 1) := oq_3 bdX0_copyAll_23.2.2.2.1
theorem dX0_copyAll_31 : decode cX0_copyAll 31 = .ok (.aload_n 0, 1) := oq_42 bdX0_copyAll_23.2.2.2.2.1
theorem dX0_copyAll_32 : decode cX0_copyAll 32 = .ok (.getfield 46, 3) := oq_180 bdX0_copyAll_23.2.2.2.2.2.1
theorem dX0_copyAll_35 : decode cX0_copyAll 35 = .ok (.iconst 0, 1) := oq_3 bdX0_copyAll_23.2.2.2.2.2.2.1
theorem dX0_copyAll_36 : decode cX0_copyAll 36 = .ok (.iload_n 2, 1) := oq_28 bdX0_copyAll_23.2.2.2.2.2.2.2.1
theorem dX0_copyAll_37 : decode cX0_copyAll 37 = .ok (.aload_n 1, 1) := oq_43 bdX0_copyAll_23.2.2.2.2.2.2.2.2.1
theorem dX0_copyAll_38 : decode cX0_copyAll 38 = .ok (.getfield 46, 3) := oq_180 bdX0_copyAll_23.2.2.2.2.2.2.2.2.2.1
theorem dX0_copyAll_41 : decode cX0_copyAll 41 = .ok (.arraylength, 1) := oq_190 bdX0_copyAll_23.2.2.2.2.2.2.2.2.2.2.1
theorem dX0_copyAll_42 : decode cX0_copyAll 42 = .ok (.invokestatic 90, 3) := oq_184 bdX0_copyAll_23.2.2.2.2.2.2.2.2.2.2.2
theorem bdX0_copyAll_45 : (pre_b (List.drop 45 cX0_copyAll.data.toList) [184, 0, 96] && Nat.beq (0 * 256 + 96) 96) = true ∧ (pre_b (List.drop 48 cX0_copyAll.data.toList) [177]) = true := by decide +kernel
theorem dX0_copyAll_45 : decode cX0_copyAll 45 = .ok (.invokestatic 96, 3) := oq_184 bdX0_copyAll_45.1
theorem dX0_copyAll_48 : decode cX0_copyAll 48 = .ok (.return_, 1) := oq_177 bdX0_copyAll_45.2
theorem bdX0_isThere_0 : (pre_b (List.drop 0 cX0_isThere.data.toList) [42]) = true ∧ (pre_b (List.drop 1 cX0_isThere.data.toList) [180, 0, 49] && Nat.beq (0 * 256 + 49) 49) = true ∧ (pre_b (List.drop 4 cX0_isThere.data.toList) [158, 0, 7] && decide (Reader.signed 16 (0 * 256 + 7) = 7)) = true ∧ (pre_b (List.drop 7 cX0_isThere.data.toList) [4]) = true ∧ (pre_b (List.drop 8 cX0_isThere.data.toList) [167, 0, 4] && decide (Reader.signed 16 (0 * 256 + 4) = 4)) = true ∧ (pre_b (List.drop 11 cX0_isThere.data.toList) [3]) = true ∧ (pre_b (List.drop 12 cX0_isThere.data.toList) [172]) = true := by decide +kernel
theorem dX0_isThere_0 : decode cX0_isThere 0 = .ok (.aload_n 0, 1) := oq_42 bdX0_isThere_0.1
theorem dX0_isThere_1 : decode cX0_isThere 1 = .ok (.getfield 49, 3) := oq_180 bdX0_isThere_0.2.1
theorem dX0_isThere_4 : decode cX0_isThere 4 = .ok (.ifCond .le 7, 3) := oq_158 bdX0_isThere_0.2.2.1
theorem dX0_isThere_7 : decode cX0_isThere 7 = .ok (.iconst 1, 1) := oq_4 bdX0_isThere_0.2.2.2.1
theorem dX0_isThere_8 : decode cX0_isThere 8 = .ok (.goto 4, 3) := oq_167 bdX0_isThere_0.2.2.2.2.1
theorem dX0_isThere_11 : decode cX0_isThere 11 = .ok (.iconst 0, 1) := oq_3 bdX0_isThere_0.2.2.2.2.2.1
theorem dX0_isThere_12 : decode cX0_isThere 12 = .ok (.ireturn, 1) := oq_172 bdX0_isThere_0.2.2.2.2.2.2
theorem bdX0_hasRow_0 : (pre_b (List.drop 0 cX0_hasRow.data.toList) [27]) = true ∧ (pre_b (List.drop 1 cX0_hasRow.data.toList) [155, 0, 15] && decide (Reader.signed 16 (0 * 256 + 15) = 15)) = true ∧ (pre_b (List.drop 4 cX0_hasRow.data.toList) [27]) = true ∧ (pre_b (List.drop 5 cX0_hasRow.data.toList) [42]) = true ∧ (pre_b (List.drop 6 cX0_hasRow.data.toList) [180, 0, 49] && Nat.beq (0 * 256 + 49) 49) = true ∧ (pre_b (List.drop 9 cX0_hasRow.data.toList) [162, 0, 7] && decide (Reader.signed 16 (0 * 256 + 7) = 7)) = true ∧ (pre_b (List.drop 12 cX0_hasRow.data.toList) [4]) = true ∧ (pre_b (List.drop 13 cX0_hasRow.data.toList) [167, 0, 4] && decide (Reader.signed 16 (0 * 256 + 4) = 4)) = true ∧ (pre_b (List.drop 16 cX0_hasRow.data.toList) [3]) = true ∧ (pre_b (List.drop 17 cX0_hasRow.data.toList) [172]) = true := by decide +kernel
theorem dX0_hasRow_0 : decode cX0_hasRow 0 = .ok (.iload_n 1, 1) := oq_27 bdX0_hasRow_0.1
theorem dX0_hasRow_1 : decode cX0_hasRow 1 = .ok (.ifCond .lt 15, 3) := oq_155 bdX0_hasRow_0.2.1
theorem dX0_hasRow_4 : decode cX0_hasRow 4 = .ok (.iload_n 1, 1) := oq_27 bdX0_hasRow_0.2.2.1
theorem dX0_hasRow_5 : decode cX0_hasRow 5 = .ok (.aload_n 0, 1) := oq_42 bdX0_hasRow_0.2.2.2.1
theorem dX0_hasRow_6 : decode cX0_hasRow 6 = .ok (.getfield 49, 3) := oq_180 bdX0_hasRow_0.2.2.2.2.1
theorem dX0_hasRow_9 : decode cX0_hasRow 9 = .ok (.if_icmp .ge 7, 3) := oq_162 bdX0_hasRow_0.2.2.2.2.2.1
theorem dX0_hasRow_12 : decode cX0_hasRow 12 = .ok (.iconst 1, 1) := oq_4 bdX0_hasRow_0.2.2.2.2.2.2.1
theorem dX0_hasRow_13 : decode cX0_hasRow 13 = .ok (.goto 4, 3) := oq_167 bdX0_hasRow_0.2.2.2.2.2.2.2.1
theorem dX0_hasRow_16 : decode cX0_hasRow 16 = .ok (.iconst 0, 1) := oq_3 bdX0_hasRow_0.2.2.2.2.2.2.2.2.1
theorem dX0_hasRow_17 : decode cX0_hasRow 17 = .ok (.ireturn, 1) := oq_172 bdX0_hasRow_0.2.2.2.2.2.2.2.2.2
theorem bdX0_hasDrum_0 : (pre_b (List.drop 0 cX0_hasDrum.data.toList) [27]) = true ∧ (pre_b (List.drop 1 cX0_hasDrum.data.toList) [155, 0, 15] && decide (Reader.signed 16 (0 * 256 + 15) = 15)) = true ∧ (pre_b (List.drop 4 cX0_hasDrum.data.toList) [27]) = true ∧ (pre_b (List.drop 5 cX0_hasDrum.data.toList) [42]) = true ∧ (pre_b (List.drop 6 cX0_hasDrum.data.toList) [180, 0, 59] && Nat.beq (0 * 256 + 59) 59) = true ∧ (pre_b (List.drop 9 cX0_hasDrum.data.toList) [162, 0, 7] && decide (Reader.signed 16 (0 * 256 + 7) = 7)) = true ∧ (pre_b (List.drop 12 cX0_hasDrum.data.toList) [4]) = true ∧ (pre_b (List.drop 13 cX0_hasDrum.data.toList) [167, 0, 4] && decide (Reader.signed 16 (0 * 256 + 4) = 4)) = true ∧ (pre_b (List.drop 16 cX0_hasDrum.data.toList) [3]) = true ∧ (pre_b (List.drop 17 cX0_hasDrum.data.toList) [172]) = true := by decide +kernel
theorem dX0_hasDrum_0 : decode cX0_hasDrum 0 = .ok (.iload_n 1, 1) := oq_27 bdX0_hasDrum_0.1
theorem dX0_hasDrum_1 : decode cX0_hasDrum 1 = .ok (.ifCond .lt 15, 3) := oq_155 bdX0_hasDrum_0.2.1
theorem dX0_hasDrum_4 : decode cX0_hasDrum 4 = .ok (.iload_n 1, 1) := oq_27 bdX0_hasDrum_0.2.2.1
theorem dX0_hasDrum_5 : decode cX0_hasDrum 5 = .ok (.aload_n 0, 1) := oq_42 bdX0_hasDrum_0.2.2.2.1
theorem dX0_hasDrum_6 : decode cX0_hasDrum 6 = .ok (.getfield 59, 3) := oq_180 bdX0_hasDrum_0.2.2.2.2.1
theorem dX0_hasDrum_9 : decode cX0_hasDrum 9 = .ok (.if_icmp .ge 7, 3) := oq_162 bdX0_hasDrum_0.2.2.2.2.2.1
theorem dX0_hasDrum_12 : decode cX0_hasDrum 12 = .ok (.iconst 1, 1) := oq_4 bdX0_hasDrum_0.2.2.2.2.2.2.1
theorem dX0_hasDrum_13 : decode cX0_hasDrum 13 = .ok (.goto 4, 3) := oq_167 bdX0_hasDrum_0.2.2.2.2.2.2.2.1
theorem dX0_hasDrum_16 : decode cX0_hasDrum 16 = .ok (.iconst 0, 1) := oq_3 bdX0_hasDrum_0.2.2.2.2.2.2.2.2.1
theorem dX0_hasDrum_17 : decode cX0_hasDrum 17 = .ok (.ireturn, 1) := oq_172 bdX0_hasDrum_0.2.2.2.2.2.2.2.2.2
theorem bdX0_flapsOf_0 : (pre_b (List.drop 0 cX0_flapsOf.data.toList) [42]) = true ∧ (pre_b (List.drop 1 cX0_flapsOf.data.toList) [180, 0, 21] && Nat.beq (0 * 256 + 21) 21) = true ∧ (pre_b (List.drop 4 cX0_flapsOf.data.toList) [27]) = true ∧ (pre_b (List.drop 5 cX0_flapsOf.data.toList) [46]) = true ∧ (pre_b (List.drop 6 cX0_flapsOf.data.toList) [61]) = true ∧ (pre_b (List.drop 7 cX0_flapsOf.data.toList) [28]) = true ∧ (pre_b (List.drop 8 cX0_flapsOf.data.toList) [155, 0, 20] && decide (Reader.signed 16 (0 * 256 + 20) = 20)) = true ∧ (pre_b (List.drop 11 cX0_flapsOf.data.toList) [28]) = true ∧ (pre_b (List.drop 12 cX0_flapsOf.data.toList) [42]) = true ∧ (pre_b (List.drop 13 cX0_flapsOf.data.toList) [180, 0, 59] && Nat.beq (0 * 256 + 59) 59) = true ∧ (pre_b (List.drop 16 cX0_flapsOf.data.toList) [162, 0, 12] && decide (Reader.signed 16 (0 * 256 + 12) = 12)) = true ∧ (pre_b (List.drop 19 cX0_flapsOf.data.toList) [42]) = true := by decide +kernel
theorem dX0_flapsOf_0 : decode cX0_flapsOf 0 = .ok (.aload_n 0, 1) := oq_42 bdX0_flapsOf_0.1
theorem dX0_flapsOf_1 : decode cX0_flapsOf 1 = .ok (.getfield 21, 3) := oq_180 bdX0_flapsOf_0.2.1
theorem dX0_flapsOf_4 : decode cX0_flapsOf 4 = .ok (.iload_n 1, 1) := oq_27 bdX0_flapsOf_0.2.2.1
theorem dX0_flapsOf_5 : decode cX0_flapsOf 5 = .ok (.iaload, 1) := oq_46 bdX0_flapsOf_0.2.2.2.1
theorem dX0_flapsOf_6 : decode cX0_flapsOf 6 = .ok (.istore_n 2, 1) := oq_61 bdX0_flapsOf_0.2.2.2.2.1
theorem dX0_flapsOf_7 : decode cX0_flapsOf 7 = .ok (.iload_n 2, 1) := oq_28 bdX0_flapsOf_0.2.2.2.2.2.1
theorem dX0_flapsOf_8 : decode cX0_flapsOf 8 = .ok (.ifCond .lt 20, 3) := oq_155 bdX0_flapsOf_0.2.2.2.2.2.2.1
theorem dX0_flapsOf_11 : decode cX0_flapsOf 11 = .ok (.iload_n 2, 1) := oq_28 bdX0_flapsOf_0.2.2.2.2.2.2.2.1
theorem dX0_flapsOf_12 : decode cX0_flapsOf 12 = .ok (.aload_n 0, 1) := oq_42 bdX0_flapsOf_0.2.2.2.2.2.2.2.2.1
theorem dX0_flapsOf_13 : decode cX0_flapsOf 13 = .ok (.getfield 59, 3) := oq_180 bdX0_flapsOf_0.2.2.2.2.2.2.2.2.2.1
theorem dX0_flapsOf_16 : decode cX0_flapsOf 16 = .ok (.if_icmp .ge 12, 3) := oq_162 bdX0_flapsOf_0.2.2.2.2.2.2.2.2.2.2.1
theorem dX0_flapsOf_19 : decode cX0_flapsOf 19 = .ok (.aload_n 0, 1) := oq_42 bdX0_flapsOf_0.2.2.2.2.2.2.2.2.2.2.2
theorem bdX0_flapsOf_20 : (pre_b (List.drop 20 cX0_flapsOf.data.toList) [180, 0, 15] && Nat.beq (0 * 256 + 15) 15) = true ∧ (pre_b (List.drop 23 cX0_flapsOf.data.toList) [28]) = true ∧ (pre_b (List.drop 24 cX0_flapsOf.data.toList) [46]) = true ∧ (pre_b (List.drop 25 cX0_flapsOf.data.toList) [167, 0, 4] && decide (Reader.signed 16 (0 * 256 + 4) = 4)) = true ∧ (pre_b (List.drop 28 cX0_flapsOf.data.toList) [3]) = true ∧ (pre_b (List.drop 29 cX0_flapsOf.data.toList) [172]) = true := by decide +kernel
theorem dX0_flapsOf_20 : decode cX0_flapsOf 20 = .ok (.getfield 15, 3) := oq_180 bdX0_flapsOf_20.1
theorem dX0_flapsOf_23 : decode cX0_flapsOf 23 = .ok (.iload_n 2, 1) := oq_28 bdX0_flapsOf_20.2.1
theorem dX0_flapsOf_24 : decode cX0_flapsOf 24 = .ok (.iaload, 1) := oq_46 bdX0_flapsOf_20.2.2.1
theorem dX0_flapsOf_25 : decode cX0_flapsOf 25 = .ok (.goto 4, 3) := oq_167 bdX0_flapsOf_20.2.2.2.1
theorem dX0_flapsOf_28 : decode cX0_flapsOf 28 = .ok (.iconst 0, 1) := oq_3 bdX0_flapsOf_20.2.2.2.2.1
theorem dX0_flapsOf_29 : decode cX0_flapsOf 29 = .ok (.ireturn, 1) := oq_172 bdX0_flapsOf_20.2.2.2.2.2
theorem bdX0_hasFlap_0 : (pre_b (List.drop 0 cX0_hasFlap.data.toList) [42]) = true ∧ (pre_b (List.drop 1 cX0_hasFlap.data.toList) [27]) = true ∧ (pre_b (List.drop 2 cX0_hasFlap.data.toList) [182, 0, 72] && Nat.beq (0 * 256 + 72) 72) = true ∧ (pre_b (List.drop 5 cX0_hasFlap.data.toList) [153, 0, 20] && decide (Reader.signed 16 (0 * 256 + 20) = 20)) = true ∧ (pre_b (List.drop 8 cX0_hasFlap.data.toList) [28]) = true ∧ (pre_b (List.drop 9 cX0_hasFlap.data.toList) [155, 0, 16] && decide (Reader.signed 16 (0 * 256 + 16) = 16)) = true ∧ (pre_b (List.drop 12 cX0_hasFlap.data.toList) [28]) = true ∧ (pre_b (List.drop 13 cX0_hasFlap.data.toList) [42]) = true ∧ (pre_b (List.drop 14 cX0_hasFlap.data.toList) [27]) = true ∧ (pre_b (List.drop 15 cX0_hasFlap.data.toList) [182, 0, 105] && Nat.beq (0 * 256 + 105) 105) = true ∧ (pre_b (List.drop 18 cX0_hasFlap.data.toList) [162, 0, 7] && decide (Reader.signed 16 (0 * 256 + 7) = 7)) = true ∧ (pre_b (List.drop 21 cX0_hasFlap.data.toList) [4]) = true := by decide +kernel
theorem dX0_hasFlap_0 : decode cX0_hasFlap 0 = .ok (.aload_n 0, 1) := oq_42 bdX0_hasFlap_0.1
theorem dX0_hasFlap_1 : decode cX0_hasFlap 1 = .ok (.iload_n 1, 1) := oq_27 bdX0_hasFlap_0.2.1
theorem dX0_hasFlap_2 : decode cX0_hasFlap 2 = .ok (.invokevirtual 72, 3) := oq_182 bdX0_hasFlap_0.2.2.1
theorem dX0_hasFlap_5 : decode cX0_hasFlap 5 = .ok (.ifCond .eq 20, 3) := oq_153 bdX0_hasFlap_0.2.2.2.1
theorem dX0_hasFlap_8 : decode cX0_hasFlap 8 = .ok (.iload_n 2, 1) := oq_28 bdX0_hasFlap_0.2.2.2.2.1
theorem dX0_hasFlap_9 : decode cX0_hasFlap 9 = .ok (.ifCond .lt 16, 3) := oq_155 bdX0_hasFlap_0.2.2.2.2.2.1
theorem dX0_hasFlap_12 : decode cX0_hasFlap 12 = .ok (.iload_n 2, 1) := oq_28 bdX0_hasFlap_0.2.2.2.2.2.2.1
theorem dX0_hasFlap_13 : decode cX0_hasFlap 13 = .ok (.aload_n 0, 1) := oq_42 bdX0_hasFlap_0.2.2.2.2.2.2.2.1
theorem dX0_hasFlap_14 : decode cX0_hasFlap 14 = .ok (.iload_n 1, 1) := oq_27 bdX0_hasFlap_0.2.2.2.2.2.2.2.2.1
theorem dX0_hasFlap_15 : decode cX0_hasFlap 15 = .ok (.invokevirtual 105, 3) := oq_182 bdX0_hasFlap_0.2.2.2.2.2.2.2.2.2.1
theorem dX0_hasFlap_18 : decode cX0_hasFlap 18 = .ok (.if_icmp .ge 7, 3) := oq_162 bdX0_hasFlap_0.2.2.2.2.2.2.2.2.2.2.1
theorem dX0_hasFlap_21 : decode cX0_hasFlap 21 = .ok (.iconst 1, 1) := oq_4 bdX0_hasFlap_0.2.2.2.2.2.2.2.2.2.2.2
theorem bdX0_hasFlap_22 : (pre_b (List.drop 22 cX0_hasFlap.data.toList) [167, 0, 4] && decide (Reader.signed 16 (0 * 256 + 4) = 4)) = true ∧ (pre_b (List.drop 25 cX0_hasFlap.data.toList) [3]) = true ∧ (pre_b (List.drop 26 cX0_hasFlap.data.toList) [172]) = true := by decide +kernel
theorem dX0_hasFlap_22 : decode cX0_hasFlap 22 = .ok (.goto 4, 3) := oq_167 bdX0_hasFlap_22.1
theorem dX0_hasFlap_25 : decode cX0_hasFlap 25 = .ok (.iconst 0, 1) := oq_3 bdX0_hasFlap_22.2.1
theorem dX0_hasFlap_26 : decode cX0_hasFlap 26 = .ok (.ireturn, 1) := oq_172 bdX0_hasFlap_22.2.2
theorem bdX0_flapsOn_0 : (pre_b (List.drop 0 cX0_flapsOn.data.toList) [27]) = true ∧ (pre_b (List.drop 1 cX0_flapsOn.data.toList) [155, 0, 20] && decide (Reader.signed 16 (0 * 256 + 20) = 20)) = true ∧ (pre_b (List.drop 4 cX0_flapsOn.data.toList) [27]) = true ∧ (pre_b (List.drop 5 cX0_flapsOn.data.toList) [42]) = true ∧ (pre_b (List.drop 6 cX0_flapsOn.data.toList) [180, 0, 59] && Nat.beq (0 * 256 + 59) 59) = true ∧ (pre_b (List.drop 9 cX0_flapsOn.data.toList) [162, 0, 12] && decide (Reader.signed 16 (0 * 256 + 12) = 12)) = true ∧ (pre_b (List.drop 12 cX0_flapsOn.data.toList) [42]) = true ∧ (pre_b (List.drop 13 cX0_flapsOn.data.toList) [180, 0, 15] && Nat.beq (0 * 256 + 15) 15) = true ∧ (pre_b (List.drop 16 cX0_flapsOn.data.toList) [27]) = true ∧ (pre_b (List.drop 17 cX0_flapsOn.data.toList) [46]) = true ∧ (pre_b (List.drop 18 cX0_flapsOn.data.toList) [167, 0, 4] && decide (Reader.signed 16 (0 * 256 + 4) = 4)) = true ∧ (pre_b (List.drop 21 cX0_flapsOn.data.toList) [3]) = true := by decide +kernel
theorem dX0_flapsOn_0 : decode cX0_flapsOn 0 = .ok (.iload_n 1, 1) := oq_27 bdX0_flapsOn_0.1
theorem dX0_flapsOn_1 : decode cX0_flapsOn 1 = .ok (.ifCond .lt 20, 3) := oq_155 bdX0_flapsOn_0.2.1
theorem dX0_flapsOn_4 : decode cX0_flapsOn 4 = .ok (.iload_n 1, 1) := oq_27 bdX0_flapsOn_0.2.2.1
theorem dX0_flapsOn_5 : decode cX0_flapsOn 5 = .ok (.aload_n 0, 1) := oq_42 bdX0_flapsOn_0.2.2.2.1
theorem dX0_flapsOn_6 : decode cX0_flapsOn 6 = .ok (.getfield 59, 3) := oq_180 bdX0_flapsOn_0.2.2.2.2.1
theorem dX0_flapsOn_9 : decode cX0_flapsOn 9 = .ok (.if_icmp .ge 12, 3) := oq_162 bdX0_flapsOn_0.2.2.2.2.2.1
theorem dX0_flapsOn_12 : decode cX0_flapsOn 12 = .ok (.aload_n 0, 1) := oq_42 bdX0_flapsOn_0.2.2.2.2.2.2.1
theorem dX0_flapsOn_13 : decode cX0_flapsOn 13 = .ok (.getfield 15, 3) := oq_180 bdX0_flapsOn_0.2.2.2.2.2.2.2.1
theorem dX0_flapsOn_16 : decode cX0_flapsOn 16 = .ok (.iload_n 1, 1) := oq_27 bdX0_flapsOn_0.2.2.2.2.2.2.2.2.1
theorem dX0_flapsOn_17 : decode cX0_flapsOn 17 = .ok (.iaload, 1) := oq_46 bdX0_flapsOn_0.2.2.2.2.2.2.2.2.2.1
theorem dX0_flapsOn_18 : decode cX0_flapsOn 18 = .ok (.goto 4, 3) := oq_167 bdX0_flapsOn_0.2.2.2.2.2.2.2.2.2.2.1
theorem dX0_flapsOn_21 : decode cX0_flapsOn 21 = .ok (.iconst 0, 1) := oq_3 bdX0_flapsOn_0.2.2.2.2.2.2.2.2.2.2.2
theorem bdX0_flapsOn_22 : (pre_b (List.drop 22 cX0_flapsOn.data.toList) [172]) = true := by decide +kernel
theorem dX0_flapsOn_22 : decode cX0_flapsOn 22 = .ok (.ireturn, 1) := oq_172 bdX0_flapsOn_22
theorem bdX0_isMovable_0 : (pre_b (List.drop 0 cX0_isMovable.data.toList) [28]) = true ∧ (pre_b (List.drop 1 cX0_isMovable.data.toList) [158, 0, 16] && decide (Reader.signed 16 (0 * 256 + 16) = 16)) = true ∧ (pre_b (List.drop 4 cX0_isMovable.data.toList) [28]) = true ∧ (pre_b (List.drop 5 cX0_isMovable.data.toList) [42]) = true ∧ (pre_b (List.drop 6 cX0_isMovable.data.toList) [27]) = true ∧ (pre_b (List.drop 7 cX0_isMovable.data.toList) [182, 0, 108] && Nat.beq (0 * 256 + 108) 108) = true ∧ (pre_b (List.drop 10 cX0_isMovable.data.toList) [162, 0, 7] && decide (Reader.signed 16 (0 * 256 + 7) = 7)) = true ∧ (pre_b (List.drop 13 cX0_isMovable.data.toList) [4]) = true ∧ (pre_b (List.drop 14 cX0_isMovable.data.toList) [167, 0, 4] && decide (Reader.signed 16 (0 * 256 + 4) = 4)) = true ∧ (pre_b (List.drop 17 cX0_isMovable.data.toList) [3]) = true ∧ (pre_b (List.drop 18 cX0_isMovable.data.toList) [172]) = true := by decide +kernel
theorem dX0_isMovable_0 : decode cX0_isMovable 0 = .ok (.iload_n 2, 1) := oq_28 bdX0_isMovable_0.1
theorem dX0_isMovable_1 : decode cX0_isMovable 1 = .ok (.ifCond .le 16, 3) := oq_158 bdX0_isMovable_0.2.1
theorem dX0_isMovable_4 : decode cX0_isMovable 4 = .ok (.iload_n 2, 1) := oq_28 bdX0_isMovable_0.2.2.1
theorem dX0_isMovable_5 : decode cX0_isMovable 5 = .ok (.aload_n 0, 1) := oq_42 bdX0_isMovable_0.2.2.2.1
theorem dX0_isMovable_6 : decode cX0_isMovable 6 = .ok (.iload_n 1, 1) := oq_27 bdX0_isMovable_0.2.2.2.2.1
theorem dX0_isMovable_7 : decode cX0_isMovable 7 = .ok (.invokevirtual 108, 3) := oq_182 bdX0_isMovable_0.2.2.2.2.2.1
theorem dX0_isMovable_10 : decode cX0_isMovable 10 = .ok (.if_icmp .ge 7, 3) := oq_162 bdX0_isMovable_0.2.2.2.2.2.2.1
theorem dX0_isMovable_13 : decode cX0_isMovable 13 = .ok (.iconst 1, 1) := oq_4 bdX0_isMovable_0.2.2.2.2.2.2.2.1
theorem dX0_isMovable_14 : decode cX0_isMovable 14 = .ok (.goto 4, 3) := oq_167 bdX0_isMovable_0.2.2.2.2.2.2.2.2.1
theorem dX0_isMovable_17 : decode cX0_isMovable 17 = .ok (.iconst 0, 1) := oq_3 bdX0_isMovable_0.2.2.2.2.2.2.2.2.2.1
theorem dX0_isMovable_18 : decode cX0_isMovable 18 = .ok (.ireturn, 1) := oq_172 bdX0_isMovable_0.2.2.2.2.2.2.2.2.2.2
theorem bdX0_currentOf_0 : (pre_b (List.drop 0 cX0_currentOf.data.toList) [42]) = true ∧ (pre_b (List.drop 1 cX0_currentOf.data.toList) [180, 0, 21] && Nat.beq (0 * 256 + 21) 21) = true ∧ (pre_b (List.drop 4 cX0_currentOf.data.toList) [27]) = true ∧ (pre_b (List.drop 5 cX0_currentOf.data.toList) [46]) = true ∧ (pre_b (List.drop 6 cX0_currentOf.data.toList) [61]) = true ∧ (pre_b (List.drop 7 cX0_currentOf.data.toList) [28]) = true ∧ (pre_b (List.drop 8 cX0_currentOf.data.toList) [155, 0, 20] && decide (Reader.signed 16 (0 * 256 + 20) = 20)) = true ∧ (pre_b (List.drop 11 cX0_currentOf.data.toList) [28]) = true ∧ (pre_b (List.drop 12 cX0_currentOf.data.toList) [42]) = true ∧ (pre_b (List.drop 13 cX0_currentOf.data.toList) [180, 0, 59] && Nat.beq (0 * 256 + 59) 59) = true ∧ (pre_b (List.drop 16 cX0_currentOf.data.toList) [162, 0, 12] && decide (Reader.signed 16 (0 * 256 + 12) = 12)) = true ∧ (pre_b (List.drop 19 cX0_currentOf.data.toList) [42]) = true := by decide +kernel
theorem dX0_currentOf_0 : decode cX0_currentOf 0 = .ok (.aload_n 0, 1) := oq_42 bdX0_currentOf_0.1
theorem dX0_currentOf_1 : decode cX0_currentOf 1 = .ok (.getfield 21, 3) := oq_180 bdX0_currentOf_0.2.1
theorem dX0_currentOf_4 : decode cX0_currentOf 4 = .ok (.iload_n 1, 1) := oq_27 bdX0_currentOf_0.2.2.1
theorem dX0_currentOf_5 : decode cX0_currentOf 5 = .ok (.iaload, 1) := oq_46 bdX0_currentOf_0.2.2.2.1
theorem dX0_currentOf_6 : decode cX0_currentOf 6 = .ok (.istore_n 2, 1) := oq_61 bdX0_currentOf_0.2.2.2.2.1
theorem dX0_currentOf_7 : decode cX0_currentOf 7 = .ok (.iload_n 2, 1) := oq_28 bdX0_currentOf_0.2.2.2.2.2.1
theorem dX0_currentOf_8 : decode cX0_currentOf 8 = .ok (.ifCond .lt 20, 3) := oq_155 bdX0_currentOf_0.2.2.2.2.2.2.1
theorem dX0_currentOf_11 : decode cX0_currentOf 11 = .ok (.iload_n 2, 1) := oq_28 bdX0_currentOf_0.2.2.2.2.2.2.2.1
theorem dX0_currentOf_12 : decode cX0_currentOf 12 = .ok (.aload_n 0, 1) := oq_42 bdX0_currentOf_0.2.2.2.2.2.2.2.2.1
theorem dX0_currentOf_13 : decode cX0_currentOf 13 = .ok (.getfield 59, 3) := oq_180 bdX0_currentOf_0.2.2.2.2.2.2.2.2.2.1
theorem dX0_currentOf_16 : decode cX0_currentOf 16 = .ok (.if_icmp .ge 12, 3) := oq_162 bdX0_currentOf_0.2.2.2.2.2.2.2.2.2.2.1
theorem dX0_currentOf_19 : decode cX0_currentOf 19 = .ok (.aload_n 0, 1) := oq_42 bdX0_currentOf_0.2.2.2.2.2.2.2.2.2.2.2
theorem bdX0_currentOf_20 : (pre_b (List.drop 20 cX0_currentOf.data.toList) [180, 0, 9] && Nat.beq (0 * 256 + 9) 9) = true ∧ (pre_b (List.drop 23 cX0_currentOf.data.toList) [28]) = true ∧ (pre_b (List.drop 24 cX0_currentOf.data.toList) [46]) = true ∧ (pre_b (List.drop 25 cX0_currentOf.data.toList) [167, 0, 4] && decide (Reader.signed 16 (0 * 256 + 4) = 4)) = true ∧ (pre_b (List.drop 28 cX0_currentOf.data.toList) [3]) = true ∧ (pre_b (List.drop 29 cX0_currentOf.data.toList) [172]) = true := by decide +kernel
theorem dX0_currentOf_20 : decode cX0_currentOf 20 = .ok (.getfield 9, 3) := oq_180 bdX0_currentOf_20.1
theorem dX0_currentOf_23 : decode cX0_currentOf 23 = .ok (.iload_n 2, 1) := oq_28 bdX0_currentOf_20.2.1
theorem dX0_currentOf_24 : decode cX0_currentOf 24 = .ok (.iaload, 1) := oq_46 bdX0_currentOf_20.2.2.1
theorem dX0_currentOf_25 : decode cX0_currentOf 25 = .ok (.goto 4, 3) := oq_167 bdX0_currentOf_20.2.2.2.1
theorem dX0_currentOf_28 : decode cX0_currentOf 28 = .ok (.iconst 0, 1) := oq_3 bdX0_currentOf_20.2.2.2.2.1
theorem dX0_currentOf_29 : decode cX0_currentOf 29 = .ok (.ireturn, 1) := oq_172 bdX0_currentOf_20.2.2.2.2.2
theorem bdX0_signOf_0 : (pre_b (List.drop 0 cX0_signOf.data.toList) [27]) = true ∧ (pre_b (List.drop 1 cX0_signOf.data.toList) [155, 0, 25] && decide (Reader.signed 16 (0 * 256 + 25) = 25)) = true ∧ (pre_b (List.drop 4 cX0_signOf.data.toList) [27]) = true ∧ (pre_b (List.drop 5 cX0_signOf.data.toList) [42]) = true ∧ (pre_b (List.drop 6 cX0_signOf.data.toList) [180, 0, 59] && Nat.beq (0 * 256 + 59) 59) = true ∧ (pre_b (List.drop 9 cX0_signOf.data.toList) [162, 0, 17] && decide (Reader.signed 16 (0 * 256 + 17) = 17)) = true ∧ (pre_b (List.drop 12 cX0_signOf.data.toList) [28]) = true ∧ (pre_b (List.drop 13 cX0_signOf.data.toList) [155, 0, 13] && decide (Reader.signed 16 (0 * 256 + 13) = 13)) = true ∧ (pre_b (List.drop 16 cX0_signOf.data.toList) [28]) = true ∧ (pre_b (List.drop 17 cX0_signOf.data.toList) [42]) = true ∧ (pre_b (List.drop 18 cX0_signOf.data.toList) [180, 0, 15] && Nat.beq (0 * 256 + 15) 15) = true ∧ (pre_b (List.drop 21 cX0_signOf.data.toList) [27]) = true := by decide +kernel
theorem dX0_signOf_0 : decode cX0_signOf 0 = .ok (.iload_n 1, 1) := oq_27 bdX0_signOf_0.1
theorem dX0_signOf_1 : decode cX0_signOf 1 = .ok (.ifCond .lt 25, 3) := oq_155 bdX0_signOf_0.2.1
theorem dX0_signOf_4 : decode cX0_signOf 4 = .ok (.iload_n 1, 1) := oq_27 bdX0_signOf_0.2.2.1
theorem dX0_signOf_5 : decode cX0_signOf 5 = .ok (.aload_n 0, 1) := oq_42 bdX0_signOf_0.2.2.2.1
theorem dX0_signOf_6 : decode cX0_signOf 6 = .ok (.getfield 59, 3) := oq_180 bdX0_signOf_0.2.2.2.2.1
theorem dX0_signOf_9 : decode cX0_signOf 9 = .ok (.if_icmp .ge 17, 3) := oq_162 bdX0_signOf_0.2.2.2.2.2.1
theorem dX0_signOf_12 : decode cX0_signOf 12 = .ok (.iload_n 2, 1) := oq_28 bdX0_signOf_0.2.2.2.2.2.2.1
theorem dX0_signOf_13 : decode cX0_signOf 13 = .ok (.ifCond .lt 13, 3) := oq_155 bdX0_signOf_0.2.2.2.2.2.2.2.1
theorem dX0_signOf_16 : decode cX0_signOf 16 = .ok (.iload_n 2, 1) := oq_28 bdX0_signOf_0.2.2.2.2.2.2.2.2.1
theorem dX0_signOf_17 : decode cX0_signOf 17 = .ok (.aload_n 0, 1) := oq_42 bdX0_signOf_0.2.2.2.2.2.2.2.2.2.1
theorem dX0_signOf_18 : decode cX0_signOf 18 = .ok (.getfield 15, 3) := oq_180 bdX0_signOf_0.2.2.2.2.2.2.2.2.2.2.1
theorem dX0_signOf_21 : decode cX0_signOf 21 = .ok (.iload_n 1, 1) := oq_27 bdX0_signOf_0.2.2.2.2.2.2.2.2.2.2.2
theorem bdX0_signOf_22 : (pre_b (List.drop 22 cX0_signOf.data.toList) [46]) = true ∧ (pre_b (List.drop 23 cX0_signOf.data.toList) [161, 0, 5] && decide (Reader.signed 16 (0 * 256 + 5) = 5)) = true ∧ (pre_b (List.drop 26 cX0_signOf.data.toList) [2]) = true ∧ (pre_b (List.drop 27 cX0_signOf.data.toList) [172]) = true ∧ (pre_b (List.drop 28 cX0_signOf.data.toList) [42]) = true ∧ (pre_b (List.drop 29 cX0_signOf.data.toList) [180, 0, 18] && Nat.beq (0 * 256 + 18) 18) = true ∧ (pre_b (List.drop 32 cX0_signOf.data.toList) [27]) = true ∧ (pre_b (List.drop 33 cX0_signOf.data.toList) [16, 40] && decide (Reader.signed 8 (40) = 40)) = true ∧ (pre_b (List.drop 35 cX0_signOf.data.toList) [104]) = true ∧ (pre_b (List.drop 36 cX0_signOf.data.toList) [28]) = true ∧ (pre_b (List.drop 37 cX0_signOf.data.toList) [96]) = true ∧ (pre_b (List.drop 38 cX0_signOf.data.toList) [46]) = true := by decide +kernel
theorem dX0_signOf_22 : decode cX0_signOf 22 = .ok (.iaload, 1) := oq_46 bdX0_signOf_22.1
theorem dX0_signOf_23 : decode cX0_signOf 23 = .ok (.if_icmp .lt 5, 3) := oq_161 bdX0_signOf_22.2.1
theorem dX0_signOf_26 : decode cX0_signOf 26 = .ok (.iconst (-1), 1) := oq_2 bdX0_signOf_22.2.2.1
theorem dX0_signOf_27 : decode cX0_signOf 27 = .ok (.ireturn, 1) := oq_172 bdX0_signOf_22.2.2.2.1
theorem dX0_signOf_28 : decode cX0_signOf 28 = .ok (.aload_n 0, 1) := oq_42 bdX0_signOf_22.2.2.2.2.1
theorem dX0_signOf_29 : decode cX0_signOf 29 = .ok (.getfield 18, 3) := oq_180 bdX0_signOf_22.2.2.2.2.2.1
theorem dX0_signOf_32 : decode cX0_signOf 32 = .ok (.iload_n 1, 1) := oq_27 bdX0_signOf_22.2.2.2.2.2.2.1
theorem dX0_signOf_33 : decode cX0_signOf 33 = .ok (.bipush 40, 2) := oq_16 bdX0_signOf_22.2.2.2.2.2.2.2.1
theorem dX0_signOf_35 : decode cX0_signOf 35 = .ok (.imul, 1) := oq_104 bdX0_signOf_22.2.2.2.2.2.2.2.2.1
theorem dX0_signOf_36 : decode cX0_signOf 36 = .ok (.iload_n 2, 1) := oq_28 bdX0_signOf_22.2.2.2.2.2.2.2.2.2.1
theorem dX0_signOf_37 : decode cX0_signOf 37 = .ok (.iadd, 1) := oq_96 bdX0_signOf_22.2.2.2.2.2.2.2.2.2.2.1
theorem dX0_signOf_38 : decode cX0_signOf 38 = .ok (.iaload, 1) := oq_46 bdX0_signOf_22.2.2.2.2.2.2.2.2.2.2.2
theorem bdX0_signOf_39 : (pre_b (List.drop 39 cX0_signOf.data.toList) [172]) = true := by decide +kernel
theorem dX0_signOf_39 : decode cX0_signOf 39 = .ok (.ireturn, 1) := oq_172 bdX0_signOf_39
theorem bdX0_signOn_0 : (pre_b (List.drop 0 cX0_signOn.data.toList) [42]) = true ∧ (pre_b (List.drop 1 cX0_signOn.data.toList) [42]) = true ∧ (pre_b (List.drop 2 cX0_signOn.data.toList) [180, 0, 21] && Nat.beq (0 * 256 + 21) 21) = true ∧ (pre_b (List.drop 5 cX0_signOn.data.toList) [27]) = true ∧ (pre_b (List.drop 6 cX0_signOn.data.toList) [46]) = true ∧ (pre_b (List.drop 7 cX0_signOn.data.toList) [28]) = true ∧ (pre_b (List.drop 8 cX0_signOn.data.toList) [182, 0, 111] && Nat.beq (0 * 256 + 111) 111) = true ∧ (pre_b (List.drop 11 cX0_signOn.data.toList) [172]) = true := by decide +kernel
theorem dX0_signOn_0 : decode cX0_signOn 0 = .ok (.aload_n 0, 1) := oq_42 bdX0_signOn_0.1
theorem dX0_signOn_1 : decode cX0_signOn 1 = .ok (.aload_n 0, 1) := oq_42 bdX0_signOn_0.2.1
theorem dX0_signOn_2 : decode cX0_signOn 2 = .ok (.getfield 21, 3) := oq_180 bdX0_signOn_0.2.2.1
theorem dX0_signOn_5 : decode cX0_signOn 5 = .ok (.iload_n 1, 1) := oq_27 bdX0_signOn_0.2.2.2.1
theorem dX0_signOn_6 : decode cX0_signOn 6 = .ok (.iaload, 1) := oq_46 bdX0_signOn_0.2.2.2.2.1
theorem dX0_signOn_7 : decode cX0_signOn 7 = .ok (.iload_n 2, 1) := oq_28 bdX0_signOn_0.2.2.2.2.2.1
theorem dX0_signOn_8 : decode cX0_signOn 8 = .ok (.invokevirtual 111, 3) := oq_182 bdX0_signOn_0.2.2.2.2.2.2.1
theorem dX0_signOn_11 : decode cX0_signOn 11 = .ok (.ireturn, 1) := oq_172 bdX0_signOn_0.2.2.2.2.2.2.2
theorem bdX0_wantedSign_0 : (pre_b (List.drop 0 cX0_wantedSign.data.toList) [42]) = true ∧ (pre_b (List.drop 1 cX0_wantedSign.data.toList) [27]) = true ∧ (pre_b (List.drop 2 cX0_wantedSign.data.toList) [42]) = true ∧ (pre_b (List.drop 3 cX0_wantedSign.data.toList) [180, 0, 30] && Nat.beq (0 * 256 + 30) 30) = true ∧ (pre_b (List.drop 6 cX0_wantedSign.data.toList) [27]) = true ∧ (pre_b (List.drop 7 cX0_wantedSign.data.toList) [46]) = true ∧ (pre_b (List.drop 8 cX0_wantedSign.data.toList) [182, 0, 114] && Nat.beq (0 * 256 + 114) 114) = true ∧ (pre_b (List.drop 11 cX0_wantedSign.data.toList) [172]) = true := by decide +kernel
theorem dX0_wantedSign_0 : decode cX0_wantedSign 0 = .ok (.aload_n 0, 1) := oq_42 bdX0_wantedSign_0.1
theorem dX0_wantedSign_1 : decode cX0_wantedSign 1 = .ok (.iload_n 1, 1) := oq_27 bdX0_wantedSign_0.2.1
theorem dX0_wantedSign_2 : decode cX0_wantedSign 2 = .ok (.aload_n 0, 1) := oq_42 bdX0_wantedSign_0.2.2.1
theorem dX0_wantedSign_3 : decode cX0_wantedSign 3 = .ok (.getfield 30, 3) := oq_180 bdX0_wantedSign_0.2.2.2.1
theorem dX0_wantedSign_6 : decode cX0_wantedSign 6 = .ok (.iload_n 1, 1) := oq_27 bdX0_wantedSign_0.2.2.2.2.1
theorem dX0_wantedSign_7 : decode cX0_wantedSign 7 = .ok (.iaload, 1) := oq_46 bdX0_wantedSign_0.2.2.2.2.2.1
theorem dX0_wantedSign_8 : decode cX0_wantedSign 8 = .ok (.invokevirtual 114, 3) := oq_182 bdX0_wantedSign_0.2.2.2.2.2.2.1
theorem dX0_wantedSign_11 : decode cX0_wantedSign 11 = .ok (.ireturn, 1) := oq_172 bdX0_wantedSign_0.2.2.2.2.2.2.2
theorem bdX0_showsWrong_0 : (pre_b (List.drop 0 cX0_showsWrong.data.toList) [42]) = true ∧ (pre_b (List.drop 1 cX0_showsWrong.data.toList) [27]) = true ∧ (pre_b (List.drop 2 cX0_showsWrong.data.toList) [42]) = true ∧ (pre_b (List.drop 3 cX0_showsWrong.data.toList) [180, 0, 24] && Nat.beq (0 * 256 + 24) 24) = true ∧ (pre_b (List.drop 6 cX0_showsWrong.data.toList) [27]) = true ∧ (pre_b (List.drop 7 cX0_showsWrong.data.toList) [46]) = true ∧ (pre_b (List.drop 8 cX0_showsWrong.data.toList) [182, 0, 114] && Nat.beq (0 * 256 + 114) 114) = true ∧ (pre_b (List.drop 11 cX0_showsWrong.data.toList) [42]) = true ∧ (pre_b (List.drop 12 cX0_showsWrong.data.toList) [27]) = true ∧ (pre_b (List.drop 13 cX0_showsWrong.data.toList) [182, 0, 117] && Nat.beq (0 * 256 + 117) 117) = true ∧ (pre_b (List.drop 16 cX0_showsWrong.data.toList) [159, 0, 7] && decide (Reader.signed 16 (0 * 256 + 7) = 7)) = true ∧ (pre_b (List.drop 19 cX0_showsWrong.data.toList) [4]) = true := by decide +kernel
theorem dX0_showsWrong_0 : decode cX0_showsWrong 0 = .ok (.aload_n 0, 1) := oq_42 bdX0_showsWrong_0.1
theorem dX0_showsWrong_1 : decode cX0_showsWrong 1 = .ok (.iload_n 1, 1) := oq_27 bdX0_showsWrong_0.2.1
theorem dX0_showsWrong_2 : decode cX0_showsWrong 2 = .ok (.aload_n 0, 1) := oq_42 bdX0_showsWrong_0.2.2.1
theorem dX0_showsWrong_3 : decode cX0_showsWrong 3 = .ok (.getfield 24, 3) := oq_180 bdX0_showsWrong_0.2.2.2.1
theorem dX0_showsWrong_6 : decode cX0_showsWrong 6 = .ok (.iload_n 1, 1) := oq_27 bdX0_showsWrong_0.2.2.2.2.1
theorem dX0_showsWrong_7 : decode cX0_showsWrong 7 = .ok (.iaload, 1) := oq_46 bdX0_showsWrong_0.2.2.2.2.2.1
theorem dX0_showsWrong_8 : decode cX0_showsWrong 8 = .ok (.invokevirtual 114, 3) := oq_182 bdX0_showsWrong_0.2.2.2.2.2.2.1
theorem dX0_showsWrong_11 : decode cX0_showsWrong 11 = .ok (.aload_n 0, 1) := oq_42 bdX0_showsWrong_0.2.2.2.2.2.2.2.1
theorem dX0_showsWrong_12 : decode cX0_showsWrong 12 = .ok (.iload_n 1, 1) := oq_27 bdX0_showsWrong_0.2.2.2.2.2.2.2.2.1
theorem dX0_showsWrong_13 : decode cX0_showsWrong 13 = .ok (.invokevirtual 117, 3) := oq_182 bdX0_showsWrong_0.2.2.2.2.2.2.2.2.2.1
theorem dX0_showsWrong_16 : decode cX0_showsWrong 16 = .ok (.if_icmp .eq 7, 3) := oq_159 bdX0_showsWrong_0.2.2.2.2.2.2.2.2.2.2.1
theorem dX0_showsWrong_19 : decode cX0_showsWrong 19 = .ok (.iconst 1, 1) := oq_4 bdX0_showsWrong_0.2.2.2.2.2.2.2.2.2.2.2
theorem bdX0_showsWrong_20 : (pre_b (List.drop 20 cX0_showsWrong.data.toList) [167, 0, 4] && decide (Reader.signed 16 (0 * 256 + 4) = 4)) = true ∧ (pre_b (List.drop 23 cX0_showsWrong.data.toList) [3]) = true ∧ (pre_b (List.drop 24 cX0_showsWrong.data.toList) [172]) = true := by decide +kernel
theorem dX0_showsWrong_20 : decode cX0_showsWrong 20 = .ok (.goto 4, 3) := oq_167 bdX0_showsWrong_20.1
theorem dX0_showsWrong_23 : decode cX0_showsWrong 23 = .ok (.iconst 0, 1) := oq_3 bdX0_showsWrong_20.2.1
theorem dX0_showsWrong_24 : decode cX0_showsWrong 24 = .ok (.ireturn, 1) := oq_172 bdX0_showsWrong_20.2.2
theorem bdX0_wrongCount_0 : (pre_b (List.drop 0 cX0_wrongCount.data.toList) [3]) = true ∧ (pre_b (List.drop 1 cX0_wrongCount.data.toList) [60]) = true ∧ (pre_b (List.drop 2 cX0_wrongCount.data.toList) [3]) = true ∧ (pre_b (List.drop 3 cX0_wrongCount.data.toList) [61]) = true ∧ (pre_b (List.drop 4 cX0_wrongCount.data.toList) [28]) = true ∧ (pre_b (List.drop 5 cX0_wrongCount.data.toList) [42]) = true ∧ (pre_b (List.drop 6 cX0_wrongCount.data.toList) [182, 0, 102] && Nat.beq (0 * 256 + 102) 102) = true ∧ (pre_b (List.drop 9 cX0_wrongCount.data.toList) [162, 0, 20] && decide (Reader.signed 16 (0 * 256 + 20) = 20)) = true ∧ (pre_b (List.drop 12 cX0_wrongCount.data.toList) [42]) = true ∧ (pre_b (List.drop 13 cX0_wrongCount.data.toList) [28]) = true ∧ (pre_b (List.drop 14 cX0_wrongCount.data.toList) [182, 0, 120] && Nat.beq (0 * 256 + 120) 120) = true ∧ (pre_b (List.drop 17 cX0_wrongCount.data.toList) [153, 0, 6] && decide (Reader.signed 16 (0 * 256 + 6) = 6)) = true := by decide +kernel
theorem dX0_wrongCount_0 : decode cX0_wrongCount 0 = .ok (.iconst 0, 1) := oq_3 bdX0_wrongCount_0.1
theorem dX0_wrongCount_1 : decode cX0_wrongCount 1 = .ok (.istore_n 1, 1) := oq_60 bdX0_wrongCount_0.2.1
theorem dX0_wrongCount_2 : decode cX0_wrongCount 2 = .ok (.iconst 0, 1) := oq_3 bdX0_wrongCount_0.2.2.1
theorem dX0_wrongCount_3 : decode cX0_wrongCount 3 = .ok (.istore_n 2, 1) := oq_61 bdX0_wrongCount_0.2.2.2.1
theorem dX0_wrongCount_4 : decode cX0_wrongCount 4 = .ok (.iload_n 2, 1) := oq_28 bdX0_wrongCount_0.2.2.2.2.1
theorem dX0_wrongCount_5 : decode cX0_wrongCount 5 = .ok (.aload_n 0, 1) := oq_42 bdX0_wrongCount_0.2.2.2.2.2.1
theorem dX0_wrongCount_6 : decode cX0_wrongCount 6 = .ok (.invokevirtual 102, 3) := oq_182 bdX0_wrongCount_0.2.2.2.2.2.2.1
theorem dX0_wrongCount_9 : decode cX0_wrongCount 9 = .ok (.if_icmp .ge 20, 3) := oq_162 bdX0_wrongCount_0.2.2.2.2.2.2.2.1
theorem dX0_wrongCount_12 : decode cX0_wrongCount 12 = .ok (.aload_n 0, 1) := oq_42 bdX0_wrongCount_0.2.2.2.2.2.2.2.2.1
theorem dX0_wrongCount_13 : decode cX0_wrongCount 13 = .ok (.iload_n 2, 1) := oq_28 bdX0_wrongCount_0.2.2.2.2.2.2.2.2.2.1
theorem dX0_wrongCount_14 : decode cX0_wrongCount 14 = .ok (.invokevirtual 120, 3) := oq_182 bdX0_wrongCount_0.2.2.2.2.2.2.2.2.2.2.1
theorem dX0_wrongCount_17 : decode cX0_wrongCount 17 = .ok (.ifCond .eq 6, 3) := oq_153 bdX0_wrongCount_0.2.2.2.2.2.2.2.2.2.2.2
theorem bdX0_wrongCount_20 : (pre_b (List.drop 20 cX0_wrongCount.data.toList) [132, 1, 1] && Nat.beq (1) 1 && decide (Reader.signed 8 (1) = 1)) = true ∧ (pre_b (List.drop 23 cX0_wrongCount.data.toList) [132, 2, 1] && Nat.beq (2) 2 && decide (Reader.signed 8 (1) = 1)) = true ∧ (pre_b (List.drop 26 cX0_wrongCount.data.toList) [167, 255, 234] && decide (Reader.signed 16 (255 * 256 + 234) = (-22))) = true ∧ (pre_b (List.drop 29 cX0_wrongCount.data.toList) [27]) = true ∧ (pre_b (List.drop 30 cX0_wrongCount.data.toList) [172]) = true := by decide +kernel
theorem dX0_wrongCount_20 : decode cX0_wrongCount 20 = .ok (.iinc 1 1, 3) := oq_132 bdX0_wrongCount_20.1
theorem dX0_wrongCount_23 : decode cX0_wrongCount 23 = .ok (.iinc 2 1, 3) := oq_132 bdX0_wrongCount_20.2.1
theorem dX0_wrongCount_26 : decode cX0_wrongCount 26 = .ok (.goto (-22), 3) := oq_167 bdX0_wrongCount_20.2.2.1
theorem dX0_wrongCount_29 : decode cX0_wrongCount 29 = .ok (.iload_n 1, 1) := oq_27 bdX0_wrongCount_20.2.2.2.1
theorem dX0_wrongCount_30 : decode cX0_wrongCount 30 = .ok (.ireturn, 1) := oq_172 bdX0_wrongCount_20.2.2.2.2
theorem bdX0_sumOf_0 : (pre_b (List.drop 0 cX0_sumOf.data.toList) [3]) = true ∧ (pre_b (List.drop 1 cX0_sumOf.data.toList) [61]) = true ∧ (pre_b (List.drop 2 cX0_sumOf.data.toList) [3]) = true ∧ (pre_b (List.drop 3 cX0_sumOf.data.toList) [62]) = true ∧ (pre_b (List.drop 4 cX0_sumOf.data.toList) [29]) = true ∧ (pre_b (List.drop 5 cX0_sumOf.data.toList) [42]) = true ∧ (pre_b (List.drop 6 cX0_sumOf.data.toList) [182, 0, 102] && Nat.beq (0 * 256 + 102) 102) = true ∧ (pre_b (List.drop 9 cX0_sumOf.data.toList) [162, 0, 21] && decide (Reader.signed 16 (0 * 256 + 21) = 21)) = true ∧ (pre_b (List.drop 12 cX0_sumOf.data.toList) [29]) = true ∧ (pre_b (List.drop 13 cX0_sumOf.data.toList) [43]) = true ∧ (pre_b (List.drop 14 cX0_sumOf.data.toList) [190]) = true ∧ (pre_b (List.drop 15 cX0_sumOf.data.toList) [162, 0, 15] && decide (Reader.signed 16 (0 * 256 + 15) = 15)) = true := by decide +kernel
theorem dX0_sumOf_0 : decode cX0_sumOf 0 = .ok (.iconst 0, 1) := oq_3 bdX0_sumOf_0.1
theorem dX0_sumOf_1 : decode cX0_sumOf 1 = .ok (.istore_n 2, 1) := oq_61 bdX0_sumOf_0.2.1
theorem dX0_sumOf_2 : decode cX0_sumOf 2 = .ok (.iconst 0, 1) := oq_3 bdX0_sumOf_0.2.2.1
theorem dX0_sumOf_3 : decode cX0_sumOf 3 = .ok (.istore_n 3, 1) := oq_62 bdX0_sumOf_0.2.2.2.1
theorem dX0_sumOf_4 : decode cX0_sumOf 4 = .ok (.iload_n 3, 1) := oq_29 bdX0_sumOf_0.2.2.2.2.1
theorem dX0_sumOf_5 : decode cX0_sumOf 5 = .ok (.aload_n 0, 1) := oq_42 bdX0_sumOf_0.2.2.2.2.2.1
theorem dX0_sumOf_6 : decode cX0_sumOf 6 = .ok (.invokevirtual 102, 3) := oq_182 bdX0_sumOf_0.2.2.2.2.2.2.1
theorem dX0_sumOf_9 : decode cX0_sumOf 9 = .ok (.if_icmp .ge 21, 3) := oq_162 bdX0_sumOf_0.2.2.2.2.2.2.2.1
theorem dX0_sumOf_12 : decode cX0_sumOf 12 = .ok (.iload_n 3, 1) := oq_29 bdX0_sumOf_0.2.2.2.2.2.2.2.2.1
theorem dX0_sumOf_13 : decode cX0_sumOf 13 = .ok (.aload_n 1, 1) := oq_43 bdX0_sumOf_0.2.2.2.2.2.2.2.2.2.1
theorem dX0_sumOf_14 : decode cX0_sumOf 14 = .ok (.arraylength, 1) := oq_190 bdX0_sumOf_0.2.2.2.2.2.2.2.2.2.2.1
theorem dX0_sumOf_15 : decode cX0_sumOf 15 = .ok (.if_icmp .ge 15, 3) := oq_162 bdX0_sumOf_0.2.2.2.2.2.2.2.2.2.2.2
theorem bdX0_sumOf_18 : (pre_b (List.drop 18 cX0_sumOf.data.toList) [28]) = true ∧ (pre_b (List.drop 19 cX0_sumOf.data.toList) [43]) = true ∧ (pre_b (List.drop 20 cX0_sumOf.data.toList) [29]) = true ∧ (pre_b (List.drop 21 cX0_sumOf.data.toList) [46]) = true ∧ (pre_b (List.drop 22 cX0_sumOf.data.toList) [96]) = true ∧ (pre_b (List.drop 23 cX0_sumOf.data.toList) [61]) = true ∧ (pre_b (List.drop 24 cX0_sumOf.data.toList) [132, 3, 1] && Nat.beq (3) 3 && decide (Reader.signed 8 (1) = 1)) = true ∧ (pre_b (List.drop 27 cX0_sumOf.data.toList) [167, 255, 233] && decide (Reader.signed 16 (255 * 256 + 233) = (-23))) = true ∧ (pre_b (List.drop 30 cX0_sumOf.data.toList) [28]) = true ∧ (pre_b (List.drop 31 cX0_sumOf.data.toList) [172]) = true := by decide +kernel
theorem dX0_sumOf_18 : decode cX0_sumOf 18 = .ok (.iload_n 2, 1) := oq_28 bdX0_sumOf_18.1
theorem dX0_sumOf_19 : decode cX0_sumOf 19 = .ok (.aload_n 1, 1) := oq_43 bdX0_sumOf_18.2.1
theorem dX0_sumOf_20 : decode cX0_sumOf 20 = .ok (.iload_n 3, 1) := oq_29 bdX0_sumOf_18.2.2.1
theorem dX0_sumOf_21 : decode cX0_sumOf 21 = .ok (.iaload, 1) := oq_46 bdX0_sumOf_18.2.2.2.1
theorem dX0_sumOf_22 : decode cX0_sumOf 22 = .ok (.iadd, 1) := oq_96 bdX0_sumOf_18.2.2.2.2.1
theorem dX0_sumOf_23 : decode cX0_sumOf 23 = .ok (.istore_n 2, 1) := oq_61 bdX0_sumOf_18.2.2.2.2.2.1
theorem dX0_sumOf_24 : decode cX0_sumOf 24 = .ok (.iinc 3 1, 3) := oq_132 bdX0_sumOf_18.2.2.2.2.2.2.1
theorem dX0_sumOf_27 : decode cX0_sumOf 27 = .ok (.goto (-23), 3) := oq_167 bdX0_sumOf_18.2.2.2.2.2.2.2.1
theorem dX0_sumOf_30 : decode cX0_sumOf 30 = .ok (.iload_n 2, 1) := oq_28 bdX0_sumOf_18.2.2.2.2.2.2.2.2.1
theorem dX0_sumOf_31 : decode cX0_sumOf 31 = .ok (.ireturn, 1) := oq_172 bdX0_sumOf_18.2.2.2.2.2.2.2.2.2
theorem bdX0_swapSigns_0 : (pre_b (List.drop 0 cX0_swapSigns.data.toList) [42]) = true ∧ (pre_b (List.drop 1 cX0_swapSigns.data.toList) [27]) = true ∧ (pre_b (List.drop 2 cX0_swapSigns.data.toList) [28]) = true ∧ (pre_b (List.drop 3 cX0_swapSigns.data.toList) [182, 0, 123] && Nat.beq (0 * 256 + 123) 123) = true ∧ (pre_b (List.drop 6 cX0_swapSigns.data.toList) [153, 0, 12] && decide (Reader.signed 16 (0 * 256 + 12) = 12)) = true ∧ (pre_b (List.drop 9 cX0_swapSigns.data.toList) [42]) = true ∧ (pre_b (List.drop 10 cX0_swapSigns.data.toList) [27]) = true ∧ (pre_b (List.drop 11 cX0_swapSigns.data.toList) [29]) = true ∧ (pre_b (List.drop 12 cX0_swapSigns.data.toList) [182, 0, 123] && Nat.beq (0 * 256 + 123) 123) = true ∧ (pre_b (List.drop 15 cX0_swapSigns.data.toList) [154, 0, 4] && decide (Reader.signed 16 (0 * 256 + 4) = 4)) = true ∧ (pre_b (List.drop 18 cX0_swapSigns.data.toList) [177]) = true ∧ (pre_b (List.drop 19 cX0_swapSigns.data.toList) [27]) = true := by decide +kernel
theorem dX0_swapSigns_0 : decode cX0_swapSigns 0 = .ok (.aload_n 0, 1) := oq_42 bdX0_swapSigns_0.1
theorem dX0_swapSigns_1 : decode cX0_swapSigns 1 = .ok (.iload_n 1, 1) := oq_27 bdX0_swapSigns_0.2.1
theorem dX0_swapSigns_2 : decode cX0_swapSigns 2 = .ok (.iload_n 2, 1) := oq_28 bdX0_swapSigns_0.2.2.1
theorem dX0_swapSigns_3 : decode cX0_swapSigns 3 = .ok (.invokevirtual 123, 3) := oq_182 bdX0_swapSigns_0.2.2.2.1
theorem dX0_swapSigns_6 : decode cX0_swapSigns 6 = .ok (.ifCond .eq 12, 3) := oq_153 bdX0_swapSigns_0.2.2.2.2.1
theorem dX0_swapSigns_9 : decode cX0_swapSigns 9 = .ok (.aload_n 0, 1) := oq_42 bdX0_swapSigns_0.2.2.2.2.2.1
theorem dX0_swapSigns_10 : decode cX0_swapSigns 10 = .ok (.iload_n 1, 1) := oq_27 bdX0_swapSigns_0.2.2.2.2.2.2.1
theorem dX0_swapSigns_11 : decode cX0_swapSigns 11 = .ok (.iload_n 3, 1) := oq_29 bdX0_swapSigns_0.2.2.2.2.2.2.2.1
theorem dX0_swapSigns_12 : decode cX0_swapSigns 12 = .ok (.invokevirtual 123, 3) := oq_182 bdX0_swapSigns_0.2.2.2.2.2.2.2.2.1
theorem dX0_swapSigns_15 : decode cX0_swapSigns 15 = .ok (.ifCond .ne 4, 3) := oq_154 bdX0_swapSigns_0.2.2.2.2.2.2.2.2.2.1
theorem dX0_swapSigns_18 : decode cX0_swapSigns 18 = .ok (.return_, 1) := oq_177 bdX0_swapSigns_0.2.2.2.2.2.2.2.2.2.2.1
theorem dX0_swapSigns_19 : decode cX0_swapSigns 19 = .ok (.iload_n 1, 1) := oq_27 bdX0_swapSigns_0.2.2.2.2.2.2.2.2.2.2.2
theorem bdX0_swapSigns_20 : (pre_b (List.drop 20 cX0_swapSigns.data.toList) [16, 40] && decide (Reader.signed 8 (40) = 40)) = true ∧ (pre_b (List.drop 22 cX0_swapSigns.data.toList) [104]) = true ∧ (pre_b (List.drop 23 cX0_swapSigns.data.toList) [54, 4] && Nat.beq (4) 4) = true ∧ (pre_b (List.drop 25 cX0_swapSigns.data.toList) [42]) = true ∧ (pre_b (List.drop 26 cX0_swapSigns.data.toList) [180, 0, 18] && Nat.beq (0 * 256 + 18) 18) = true ∧ (pre_b (List.drop 29 cX0_swapSigns.data.toList) [21, 4] && Nat.beq (4) 4) = true ∧ (pre_b (List.drop 31 cX0_swapSigns.data.toList) [28]) = true ∧ (pre_b (List.drop 32 cX0_swapSigns.data.toList) [96]) = true ∧ (pre_b (List.drop 33 cX0_swapSigns.data.toList) [46]) = true ∧ (pre_b (List.drop 34 cX0_swapSigns.data.toList) [54, 5] && Nat.beq (5) 5) = true ∧ (pre_b (List.drop 36 cX0_swapSigns.data.toList) [42]) = true ∧ (pre_b (List.drop 37 cX0_swapSigns.data.toList) [180, 0, 18] && Nat.beq (0 * 256 + 18) 18) = true := by decide +kernel
theorem dX0_swapSigns_20 : decode cX0_swapSigns 20 = .ok (.bipush 40, 2) := oq_16 bdX0_swapSigns_20.1
theorem dX0_swapSigns_22 : decode cX0_swapSigns 22 = .ok (.imul, 1) := oq_104 bdX0_swapSigns_20.2.1
theorem dX0_swapSigns_23 : decode cX0_swapSigns 23 = .ok (.istore 4, 2) := oq_54 bdX0_swapSigns_20.2.2.1
theorem dX0_swapSigns_25 : decode cX0_swapSigns 25 = .ok (.aload_n 0, 1) := oq_42 bdX0_swapSigns_20.2.2.2.1
theorem dX0_swapSigns_26 : decode cX0_swapSigns 26 = .ok (.getfield 18, 3) := oq_180 bdX0_swapSigns_20.2.2.2.2.1
theorem dX0_swapSigns_29 : decode cX0_swapSigns 29 = .ok (.iload 4, 2) := oq_21 bdX0_swapSigns_20.2.2.2.2.2.1
theorem dX0_swapSigns_31 : decode cX0_swapSigns 31 = .ok (.iload_n 2, 1) := oq_28 bdX0_swapSigns_20.2.2.2.2.2.2.1
theorem dX0_swapSigns_32 : decode cX0_swapSigns 32 = .ok (.iadd, 1) := oq_96 bdX0_swapSigns_20.2.2.2.2.2.2.2.1
theorem dX0_swapSigns_33 : decode cX0_swapSigns 33 = .ok (.iaload, 1) := oq_46 bdX0_swapSigns_20.2.2.2.2.2.2.2.2.1
theorem dX0_swapSigns_34 : decode cX0_swapSigns 34 = .ok (.istore 5, 2) := oq_54 bdX0_swapSigns_20.2.2.2.2.2.2.2.2.2.1
theorem dX0_swapSigns_36 : decode cX0_swapSigns 36 = .ok (.aload_n 0, 1) := oq_42 bdX0_swapSigns_20.2.2.2.2.2.2.2.2.2.2.1
theorem dX0_swapSigns_37 : decode cX0_swapSigns 37 = .ok (.getfield 18, 3) := oq_180 bdX0_swapSigns_20.2.2.2.2.2.2.2.2.2.2.2
theorem bdX0_swapSigns_40 : (pre_b (List.drop 40 cX0_swapSigns.data.toList) [21, 4] && Nat.beq (4) 4) = true ∧ (pre_b (List.drop 42 cX0_swapSigns.data.toList) [28]) = true ∧ (pre_b (List.drop 43 cX0_swapSigns.data.toList) [96]) = true ∧ (pre_b (List.drop 44 cX0_swapSigns.data.toList) [42]) = true ∧ (pre_b (List.drop 45 cX0_swapSigns.data.toList) [180, 0, 18] && Nat.beq (0 * 256 + 18) 18) = true ∧ (pre_b (List.drop 48 cX0_swapSigns.data.toList) [21, 4] && Nat.beq (4) 4) = true ∧ (pre_b (List.drop 50 cX0_swapSigns.data.toList) [29]) = true ∧ (pre_b (List.drop 51 cX0_swapSigns.data.toList) [96]) = true ∧ (pre_b (List.drop 52 cX0_swapSigns.data.toList) [46]) = true ∧ (pre_b (List.drop 53 cX0_swapSigns.data.toList) [79]) = true ∧ (pre_b (List.drop 54 cX0_swapSigns.data.toList) [42]) = true ∧ (pre_b (List.drop 55 cX0_swapSigns.data.toList) [180, 0, 18] && Nat.beq (0 * 256 + 18) 18) = true := by decide +kernel
theorem dX0_swapSigns_40 : decode cX0_swapSigns 40 = .ok (.iload 4, 2) := oq_21 bdX0_swapSigns_40.1
theorem dX0_swapSigns_42 : decode cX0_swapSigns 42 = .ok (.iload_n 2, 1) := oq_28 bdX0_swapSigns_40.2.1
theorem dX0_swapSigns_43 : decode cX0_swapSigns 43 = .ok (.iadd, 1) := oq_96 bdX0_swapSigns_40.2.2.1
theorem dX0_swapSigns_44 : decode cX0_swapSigns 44 = .ok (.aload_n 0, 1) := oq_42 bdX0_swapSigns_40.2.2.2.1
theorem dX0_swapSigns_45 : decode cX0_swapSigns 45 = .ok (.getfield 18, 3) := oq_180 bdX0_swapSigns_40.2.2.2.2.1
theorem dX0_swapSigns_48 : decode cX0_swapSigns 48 = .ok (.iload 4, 2) := oq_21 bdX0_swapSigns_40.2.2.2.2.2.1
theorem dX0_swapSigns_50 : decode cX0_swapSigns 50 = .ok (.iload_n 3, 1) := oq_29 bdX0_swapSigns_40.2.2.2.2.2.2.1
theorem dX0_swapSigns_51 : decode cX0_swapSigns 51 = .ok (.iadd, 1) := oq_96 bdX0_swapSigns_40.2.2.2.2.2.2.2.1
theorem dX0_swapSigns_52 : decode cX0_swapSigns 52 = .ok (.iaload, 1) := oq_46 bdX0_swapSigns_40.2.2.2.2.2.2.2.2.1
theorem dX0_swapSigns_53 : decode cX0_swapSigns 53 = .ok (.iastore, 1) := oq_79 bdX0_swapSigns_40.2.2.2.2.2.2.2.2.2.1
theorem dX0_swapSigns_54 : decode cX0_swapSigns 54 = .ok (.aload_n 0, 1) := oq_42 bdX0_swapSigns_40.2.2.2.2.2.2.2.2.2.2.1
theorem dX0_swapSigns_55 : decode cX0_swapSigns 55 = .ok (.getfield 18, 3) := oq_180 bdX0_swapSigns_40.2.2.2.2.2.2.2.2.2.2.2
theorem bdX0_swapSigns_58 : (pre_b (List.drop 58 cX0_swapSigns.data.toList) [21, 4] && Nat.beq (4) 4) = true ∧ (pre_b (List.drop 60 cX0_swapSigns.data.toList) [29]) = true ∧ (pre_b (List.drop 61 cX0_swapSigns.data.toList) [96]) = true ∧ (pre_b (List.drop 62 cX0_swapSigns.data.toList) [21, 5] && Nat.beq (5) 5) = true ∧ (pre_b (List.drop 64 cX0_swapSigns.data.toList) [79]) = true ∧ (pre_b (List.drop 65 cX0_swapSigns.data.toList) [177]) = true := by decide +kernel
theorem dX0_swapSigns_58 : decode cX0_swapSigns 58 = .ok (.iload 4, 2) := oq_21 bdX0_swapSigns_58.1
theorem dX0_swapSigns_60 : decode cX0_swapSigns 60 = .ok (.iload_n 3, 1) := oq_29 bdX0_swapSigns_58.2.1
theorem dX0_swapSigns_61 : decode cX0_swapSigns 61 = .ok (.iadd, 1) := oq_96 bdX0_swapSigns_58.2.2.1
theorem dX0_swapSigns_62 : decode cX0_swapSigns 62 = .ok (.iload 5, 2) := oq_21 bdX0_swapSigns_58.2.2.2.1
theorem dX0_swapSigns_64 : decode cX0_swapSigns 64 = .ok (.iastore, 1) := oq_79 bdX0_swapSigns_58.2.2.2.2.1
theorem dX0_swapSigns_65 : decode cX0_swapSigns 65 = .ok (.return_, 1) := oq_177 bdX0_swapSigns_58.2.2.2.2.2
theorem bdX0_cellsWith_0 : (pre_b (List.drop 0 cX0_cellsWith.data.toList) [3]) = true ∧ (pre_b (List.drop 1 cX0_cellsWith.data.toList) [61]) = true ∧ (pre_b (List.drop 2 cX0_cellsWith.data.toList) [3]) = true ∧ (pre_b (List.drop 3 cX0_cellsWith.data.toList) [62]) = true ∧ (pre_b (List.drop 4 cX0_cellsWith.data.toList) [29]) = true ∧ (pre_b (List.drop 5 cX0_cellsWith.data.toList) [42]) = true ∧ (pre_b (List.drop 6 cX0_cellsWith.data.toList) [182, 0, 102] && Nat.beq (0 * 256 + 102) 102) = true ∧ (pre_b (List.drop 9 cX0_cellsWith.data.toList) [162, 0, 22] && decide (Reader.signed 16 (0 * 256 + 22) = 22)) = true ∧ (pre_b (List.drop 12 cX0_cellsWith.data.toList) [42]) = true ∧ (pre_b (List.drop 13 cX0_cellsWith.data.toList) [180, 0, 21] && Nat.beq (0 * 256 + 21) 21) = true ∧ (pre_b (List.drop 16 cX0_cellsWith.data.toList) [29]) = true ∧ (pre_b (List.drop 17 cX0_cellsWith.data.toList) [46]) = true := by decide +kernel
theorem dX0_cellsWith_0 : decode cX0_cellsWith 0 = .ok (.iconst 0, 1) := oq_3 bdX0_cellsWith_0.1
theorem dX0_cellsWith_1 : decode cX0_cellsWith 1 = .ok (.istore_n 2, 1) := oq_61 bdX0_cellsWith_0.2.1
theorem dX0_cellsWith_2 : decode cX0_cellsWith 2 = .ok (.iconst 0, 1) := oq_3 bdX0_cellsWith_0.2.2.1
theorem dX0_cellsWith_3 : decode cX0_cellsWith 3 = .ok (.istore_n 3, 1) := oq_62 bdX0_cellsWith_0.2.2.2.1
theorem dX0_cellsWith_4 : decode cX0_cellsWith 4 = .ok (.iload_n 3, 1) := oq_29 bdX0_cellsWith_0.2.2.2.2.1
theorem dX0_cellsWith_5 : decode cX0_cellsWith 5 = .ok (.aload_n 0, 1) := oq_42 bdX0_cellsWith_0.2.2.2.2.2.1
theorem dX0_cellsWith_6 : decode cX0_cellsWith 6 = .ok (.invokevirtual 102, 3) := oq_182 bdX0_cellsWith_0.2.2.2.2.2.2.1
theorem dX0_cellsWith_9 : decode cX0_cellsWith 9 = .ok (.if_icmp .ge 22, 3) := oq_162 bdX0_cellsWith_0.2.2.2.2.2.2.2.1
theorem dX0_cellsWith_12 : decode cX0_cellsWith 12 = .ok (.aload_n 0, 1) := oq_42 bdX0_cellsWith_0.2.2.2.2.2.2.2.2.1
theorem dX0_cellsWith_13 : decode cX0_cellsWith 13 = .ok (.getfield 21, 3) := oq_180 bdX0_cellsWith_0.2.2.2.2.2.2.2.2.2.1
theorem dX0_cellsWith_16 : decode cX0_cellsWith 16 = .ok (.iload_n 3, 1) := oq_29 bdX0_cellsWith_0.2.2.2.2.2.2.2.2.2.2.1
theorem dX0_cellsWith_17 : decode cX0_cellsWith 17 = .ok (.iaload, 1) := oq_46 bdX0_cellsWith_0.2.2.2.2.2.2.2.2.2.2.2
theorem bdX0_cellsWith_18 : (pre_b (List.drop 18 cX0_cellsWith.data.toList) [27]) = true ∧ (pre_b (List.drop 19 cX0_cellsWith.data.toList) [160, 0, 6] && decide (Reader.signed 16 (0 * 256 + 6) = 6)) = true ∧ (pre_b (List.drop 22 cX0_cellsWith.data.toList) [132, 2, 1] && Nat.beq (2) 2 && decide (Reader.signed 8 (1) = 1)) = true ∧ (pre_b (List.drop 25 cX0_cellsWith.data.toList) [132, 3, 1] && Nat.beq (3) 3 && decide (Reader.signed 8 (1) = 1)) = true ∧ (pre_b (List.drop 28 cX0_cellsWith.data.toList) [167, 255, 232] && decide (Reader.signed 16 (255 * 256 + 232) = (-24))) = true ∧ (pre_b (List.drop 31 cX0_cellsWith.data.toList) [28]) = true ∧ (pre_b (List.drop 32 cX0_cellsWith.data.toList) [172]) = true := by decide +kernel
theorem dX0_cellsWith_18 : decode cX0_cellsWith 18 = .ok (.iload_n 1, 1) := oq_27 bdX0_cellsWith_18.1
theorem dX0_cellsWith_19 : decode cX0_cellsWith 19 = .ok (.if_icmp .ne 6, 3) := oq_160 bdX0_cellsWith_18.2.1
theorem dX0_cellsWith_22 : decode cX0_cellsWith 22 = .ok (.iinc 2 1, 3) := oq_132 bdX0_cellsWith_18.2.2.1
theorem dX0_cellsWith_25 : decode cX0_cellsWith 25 = .ok (.iinc 3 1, 3) := oq_132 bdX0_cellsWith_18.2.2.2.1
theorem dX0_cellsWith_28 : decode cX0_cellsWith 28 = .ok (.goto (-24), 3) := oq_167 bdX0_cellsWith_18.2.2.2.2.1
theorem dX0_cellsWith_31 : decode cX0_cellsWith 31 = .ok (.iload_n 2, 1) := oq_28 bdX0_cellsWith_18.2.2.2.2.2.1
theorem dX0_cellsWith_32 : decode cX0_cellsWith 32 = .ok (.ireturn, 1) := oq_172 bdX0_cellsWith_18.2.2.2.2.2.2
theorem bdX0_flapsWith_0 : (pre_b (List.drop 0 cX0_flapsWith.data.toList) [27]) = true ∧ (pre_b (List.drop 1 cX0_flapsWith.data.toList) [16, 40] && decide (Reader.signed 8 (40) = 40)) = true ∧ (pre_b (List.drop 3 cX0_flapsWith.data.toList) [104]) = true ∧ (pre_b (List.drop 4 cX0_flapsWith.data.toList) [54, 4] && Nat.beq (4) 4) = true ∧ (pre_b (List.drop 6 cX0_flapsWith.data.toList) [42]) = true ∧ (pre_b (List.drop 7 cX0_flapsWith.data.toList) [27]) = true ∧ (pre_b (List.drop 8 cX0_flapsWith.data.toList) [182, 0, 108] && Nat.beq (0 * 256 + 108) 108) = true ∧ (pre_b (List.drop 11 cX0_flapsWith.data.toList) [54, 5] && Nat.beq (5) 5) = true ∧ (pre_b (List.drop 13 cX0_flapsWith.data.toList) [3]) = true ∧ (pre_b (List.drop 14 cX0_flapsWith.data.toList) [54, 6] && Nat.beq (6) 6) = true ∧ (pre_b (List.drop 16 cX0_flapsWith.data.toList) [29]) = true ∧ (pre_b (List.drop 17 cX0_flapsWith.data.toList) [54, 7] && Nat.beq (7) 7) = true := by decide +kernel
theorem dX0_flapsWith_0 : decode cX0_flapsWith 0 = .ok (.iload_n 1, 1) := oq_27 bdX0_flapsWith_0.1
theorem dX0_flapsWith_1 : decode cX0_flapsWith 1 = .ok (.bipush 40, 2) := oq_16 bdX0_flapsWith_0.2.1
theorem dX0_flapsWith_3 : decode cX0_flapsWith 3 = .ok (.imul, 1) := oq_104 bdX0_flapsWith_0.2.2.1
theorem dX0_flapsWith_4 : decode cX0_flapsWith 4 = .ok (.istore 4, 2) := oq_54 bdX0_flapsWith_0.2.2.2.1
theorem dX0_flapsWith_6 : decode cX0_flapsWith 6 = .ok (.aload_n 0, 1) := oq_42 bdX0_flapsWith_0.2.2.2.2.1
theorem dX0_flapsWith_7 : decode cX0_flapsWith 7 = .ok (.iload_n 1, 1) := oq_27 bdX0_flapsWith_0.2.2.2.2.2.1
theorem dX0_flapsWith_8 : decode cX0_flapsWith 8 = .ok (.invokevirtual 108, 3) := oq_182 bdX0_flapsWith_0.2.2.2.2.2.2.1
theorem dX0_flapsWith_11 : decode cX0_flapsWith 11 = .ok (.istore 5, 2) := oq_54 bdX0_flapsWith_0.2.2.2.2.2.2.2.1
theorem dX0_flapsWith_13 : decode cX0_flapsWith 13 = .ok (.iconst 0, 1) := oq_3 bdX0_flapsWith_0.2.2.2.2.2.2.2.2.1
theorem dX0_flapsWith_14 : decode cX0_flapsWith 14 = .ok (.istore 6, 2) := oq_54 bdX0_flapsWith_0.2.2.2.2.2.2.2.2.2.1
theorem dX0_flapsWith_16 : decode cX0_flapsWith 16 = .ok (.iload_n 3, 1) := oq_29 bdX0_flapsWith_0.2.2.2.2.2.2.2.2.2.2.1
theorem dX0_flapsWith_17 : decode cX0_flapsWith 17 = .ok (.istore 7, 2) := oq_54 bdX0_flapsWith_0.2.2.2.2.2.2.2.2.2.2.2
theorem bdX0_flapsWith_19 : (pre_b (List.drop 19 cX0_flapsWith.data.toList) [21, 7] && Nat.beq (7) 7) = true ∧ (pre_b (List.drop 21 cX0_flapsWith.data.toList) [21, 5] && Nat.beq (5) 5) = true ∧ (pre_b (List.drop 23 cX0_flapsWith.data.toList) [162, 0, 26] && decide (Reader.signed 16 (0 * 256 + 26) = 26)) = true ∧ (pre_b (List.drop 26 cX0_flapsWith.data.toList) [42]) = true ∧ (pre_b (List.drop 27 cX0_flapsWith.data.toList) [180, 0, 18] && Nat.beq (0 * 256 + 18) 18) = true ∧ (pre_b (List.drop 30 cX0_flapsWith.data.toList) [21, 4] && Nat.beq (4) 4) = true ∧ (pre_b (List.drop 32 cX0_flapsWith.data.toList) [21, 7] && Nat.beq (7) 7) = true ∧ (pre_b (List.drop 34 cX0_flapsWith.data.toList) [96]) = true ∧ (pre_b (List.drop 35 cX0_flapsWith.data.toList) [46]) = true ∧ (pre_b (List.drop 36 cX0_flapsWith.data.toList) [28]) = true ∧ (pre_b (List.drop 37 cX0_flapsWith.data.toList) [160, 0, 6] && decide (Reader.signed 16 (0 * 256 + 6) = 6)) = true ∧ (pre_b (List.drop 40 cX0_flapsWith.data.toList) [132, 6, 1] && Nat.beq (6) 6 && decide (Reader.signed 8 (1) = 1)) = true := by decide +kernel
theorem dX0_flapsWith_19 : decode cX0_flapsWith 19 = .ok (.iload 7, 2) := oq_21 bdX0_flapsWith_19.1
theorem dX0_flapsWith_21 : decode cX0_flapsWith 21 = .ok (.iload 5, 2) := oq_21 bdX0_flapsWith_19.2.1
theorem dX0_flapsWith_23 : decode cX0_flapsWith 23 = .ok (.if_icmp .ge 26, 3) := oq_162 bdX0_flapsWith_19.2.2.1
theorem dX0_flapsWith_26 : decode cX0_flapsWith 26 = .ok (.aload_n 0, 1) := oq_42 bdX0_flapsWith_19.2.2.2.1
theorem dX0_flapsWith_27 : decode cX0_flapsWith 27 = .ok (.getfield 18, 3) := oq_180 bdX0_flapsWith_19.2.2.2.2.1
theorem dX0_flapsWith_30 : decode cX0_flapsWith 30 = .ok (.iload 4, 2) := oq_21 bdX0_flapsWith_19.2.2.2.2.2.1
theorem dX0_flapsWith_32 : decode cX0_flapsWith 32 = .ok (.iload 7, 2) := oq_21 bdX0_flapsWith_19.2.2.2.2.2.2.1
theorem dX0_flapsWith_34 : decode cX0_flapsWith 34 = .ok (.iadd, 1) := oq_96 bdX0_flapsWith_19.2.2.2.2.2.2.2.1
theorem dX0_flapsWith_35 : decode cX0_flapsWith 35 = .ok (.iaload, 1) := oq_46 bdX0_flapsWith_19.2.2.2.2.2.2.2.2.1
theorem dX0_flapsWith_36 : decode cX0_flapsWith 36 = .ok (.iload_n 2, 1) := oq_28 bdX0_flapsWith_19.2.2.2.2.2.2.2.2.2.1
theorem dX0_flapsWith_37 : decode cX0_flapsWith 37 = .ok (.if_icmp .ne 6, 3) := oq_160 bdX0_flapsWith_19.2.2.2.2.2.2.2.2.2.2.1
theorem dX0_flapsWith_40 : decode cX0_flapsWith 40 = .ok (.iinc 6 1, 3) := oq_132 bdX0_flapsWith_19.2.2.2.2.2.2.2.2.2.2.2
theorem bdX0_flapsWith_43 : (pre_b (List.drop 43 cX0_flapsWith.data.toList) [132, 7, 1] && Nat.beq (7) 7 && decide (Reader.signed 8 (1) = 1)) = true ∧ (pre_b (List.drop 46 cX0_flapsWith.data.toList) [167, 255, 229] && decide (Reader.signed 16 (255 * 256 + 229) = (-27))) = true ∧ (pre_b (List.drop 49 cX0_flapsWith.data.toList) [21, 6] && Nat.beq (6) 6) = true ∧ (pre_b (List.drop 51 cX0_flapsWith.data.toList) [172]) = true := by decide +kernel
theorem dX0_flapsWith_43 : decode cX0_flapsWith 43 = .ok (.iinc 7 1, 3) := oq_132 bdX0_flapsWith_43.1
theorem dX0_flapsWith_46 : decode cX0_flapsWith 46 = .ok (.goto (-27), 3) := oq_167 bdX0_flapsWith_43.2.1
theorem dX0_flapsWith_49 : decode cX0_flapsWith 49 = .ok (.iload 6, 2) := oq_21 bdX0_flapsWith_43.2.2.1
theorem dX0_flapsWith_51 : decode cX0_flapsWith 51 = .ok (.ireturn, 1) := oq_172 bdX0_flapsWith_43.2.2.2
theorem bdX0_drumHas_0 : (pre_b (List.drop 0 cX0_drumHas.data.toList) [42]) = true ∧ (pre_b (List.drop 1 cX0_drumHas.data.toList) [27]) = true ∧ (pre_b (List.drop 2 cX0_drumHas.data.toList) [28]) = true ∧ (pre_b (List.drop 3 cX0_drumHas.data.toList) [3]) = true ∧ (pre_b (List.drop 4 cX0_drumHas.data.toList) [182, 0, 127] && Nat.beq (0 * 256 + 127) 127) = true ∧ (pre_b (List.drop 7 cX0_drumHas.data.toList) [158, 0, 7] && decide (Reader.signed 16 (0 * 256 + 7) = 7)) = true := by decide +kernel
theorem dX0_drumHas_0 : decode cX0_drumHas 0 = .ok (.aload_n 0, 1) := oq_42 bdX0_drumHas_0.1
theorem dX0_drumHas_1 : decode cX0_drumHas 1 = .ok (.iload_n 1, 1) := oq_27 bdX0_drumHas_0.2.1
theorem dX0_drumHas_2 : decode cX0_drumHas 2 = .ok (.iload_n 2, 1) := oq_28 bdX0_drumHas_0.2.2.1
theorem dX0_drumHas_3 : decode cX0_drumHas 3 = .ok (.iconst 0, 1) := oq_3 bdX0_drumHas_0.2.2.2.1
theorem dX0_drumHas_4 : decode cX0_drumHas 4 = .ok (.invokevirtual 127, 3) := oq_182 bdX0_drumHas_0.2.2.2.2.1
theorem dX0_drumHas_7 : decode cX0_drumHas 7 = .ok (.ifCond .le 7, 3) := oq_158 bdX0_drumHas_0.2.2.2.2.2

theorem bdX0_drumHas_10 : (pre_b (List.drop 10 cX0_drumHas.data.toList) [4]) = true ∧ (pre_b (List.drop 11 cX0_drumHas.data.toList) [167, 0, 4] && decide (Reader.signed 16 (0 * 256 + 4) = 4)) = true ∧ (pre_b (List.drop 14 cX0_drumHas.data.toList) [3]) = true ∧ (pre_b (List.drop 15 cX0_drumHas.data.toList) [172]) = true := by decide +kernel
theorem dX0_drumHas_10 : decode cX0_drumHas 10 = .ok (.iconst 1, 1) := oq_4 bdX0_drumHas_10.1
theorem dX0_drumHas_11 : decode cX0_drumHas 11 = .ok (.goto 4, 3) := oq_167 bdX0_drumHas_10.2.1
theorem dX0_drumHas_14 : decode cX0_drumHas 14 = .ok (.iconst 0, 1) := oq_3 bdX0_drumHas_10.2.2.1
theorem dX0_drumHas_15 : decode cX0_drumHas 15 = .ok (.ireturn, 1) := oq_172 bdX0_drumHas_10.2.2.2
theorem bdX0_someDrumHas_0 : (pre_b (List.drop 0 cX0_someDrumHas.data.toList) [3]) = true ∧ (pre_b (List.drop 1 cX0_someDrumHas.data.toList) [61]) = true ∧ (pre_b (List.drop 2 cX0_someDrumHas.data.toList) [28]) = true ∧ (pre_b (List.drop 3 cX0_someDrumHas.data.toList) [42]) = true ∧ (pre_b (List.drop 4 cX0_someDrumHas.data.toList) [180, 0, 59] && Nat.beq (0 * 256 + 59) 59) = true ∧ (pre_b (List.drop 7 cX0_someDrumHas.data.toList) [162, 0, 20] && decide (Reader.signed 16 (0 * 256 + 20) = 20)) = true ∧ (pre_b (List.drop 10 cX0_someDrumHas.data.toList) [42]) = true ∧ (pre_b (List.drop 11 cX0_someDrumHas.data.toList) [28]) = true ∧ (pre_b (List.drop 12 cX0_someDrumHas.data.toList) [27]) = true ∧ (pre_b (List.drop 13 cX0_someDrumHas.data.toList) [182, 0, 131] && Nat.beq (0 * 256 + 131) 131) = true ∧ (pre_b (List.drop 16 cX0_someDrumHas.data.toList) [153, 0, 5] && decide (Reader.signed 16 (0 * 256 + 5) = 5)) = true ∧ (pre_b (List.drop 19 cX0_someDrumHas.data.toList) [4]) = true := by decide +kernel
theorem dX0_someDrumHas_0 : decode cX0_someDrumHas 0 = .ok (.iconst 0, 1) := oq_3 bdX0_someDrumHas_0.1
theorem dX0_someDrumHas_1 : decode cX0_someDrumHas 1 = .ok (.istore_n 2, 1) := oq_61 bdX0_someDrumHas_0.2.1
theorem dX0_someDrumHas_2 : decode cX0_someDrumHas 2 = .ok (.iload_n 2, 1) := oq_28 bdX0_someDrumHas_0.2.2.1
theorem dX0_someDrumHas_3 : decode cX0_someDrumHas 3 = .ok (.aload_n 0, 1) := oq_42 bdX0_someDrumHas_0.2.2.2.1
theorem dX0_someDrumHas_4 : decode cX0_someDrumHas 4 = .ok (.getfield 59, 3) := oq_180 bdX0_someDrumHas_0.2.2.2.2.1
theorem dX0_someDrumHas_7 : decode cX0_someDrumHas 7 = .ok (.if_icmp .ge 20, 3) := oq_162 bdX0_someDrumHas_0.2.2.2.2.2.1
theorem dX0_someDrumHas_10 : decode cX0_someDrumHas 10 = .ok (.aload_n 0, 1) := oq_42 bdX0_someDrumHas_0.2.2.2.2.2.2.1
theorem dX0_someDrumHas_11 : decode cX0_someDrumHas 11 = .ok (.iload_n 2, 1) := oq_28 bdX0_someDrumHas_0.2.2.2.2.2.2.2.1
theorem dX0_someDrumHas_12 : decode cX0_someDrumHas 12 = .ok (.iload_n 1, 1) := oq_27 bdX0_someDrumHas_0.2.2.2.2.2.2.2.2.1
theorem dX0_someDrumHas_13 : decode cX0_someDrumHas 13 = .ok (.invokevirtual 131, 3) := oq_182 bdX0_someDrumHas_0.2.2.2.2.2.2.2.2.2.1
theorem dX0_someDrumHas_16 : decode cX0_someDrumHas 16 = .ok (.ifCond .eq 5, 3) := oq_153 bdX0_someDrumHas_0.2.2.2.2.2.2.2.2.2.2.1
theorem dX0_someDrumHas_19 : decode cX0_someDrumHas 19 = .ok (.iconst 1, 1) := oq_4 bdX0_someDrumHas_0.2.2.2.2.2.2.2.2.2.2.2
theorem bdX0_someDrumHas_20 : (pre_b (List.drop 20 cX0_someDrumHas.data.toList) [172]) = true ∧ (pre_b (List.drop 21 cX0_someDrumHas.data.toList) [132, 2, 1] && Nat.beq (2) 2 && decide (Reader.signed 8 (1) = 1)) = true ∧ (pre_b (List.drop 24 cX0_someDrumHas.data.toList) [167, 255, 234] && decide (Reader.signed 16 (255 * 256 + 234) = (-22))) = true ∧ (pre_b (List.drop 27 cX0_someDrumHas.data.toList) [3]) = true ∧ (pre_b (List.drop 28 cX0_someDrumHas.data.toList) [172]) = true := by decide +kernel
theorem dX0_someDrumHas_20 : decode cX0_someDrumHas 20 = .ok (.ireturn, 1) := oq_172 bdX0_someDrumHas_20.1
theorem dX0_someDrumHas_21 : decode cX0_someDrumHas 21 = .ok (.iinc 2 1, 3) := oq_132 bdX0_someDrumHas_20.2.1
theorem dX0_someDrumHas_24 : decode cX0_someDrumHas 24 = .ok (.goto (-22), 3) := oq_167 bdX0_someDrumHas_20.2.2.1
theorem dX0_someDrumHas_27 : decode cX0_someDrumHas 27 = .ok (.iconst 0, 1) := oq_3 bdX0_someDrumHas_20.2.2.2.1
theorem dX0_someDrumHas_28 : decode cX0_someDrumHas 28 = .ok (.ireturn, 1) := oq_172 bdX0_someDrumHas_20.2.2.2.2
theorem bdX0_isLastOfSign_0 : (pre_b (List.drop 0 cX0_isLastOfSign.data.toList) [42]) = true ∧ (pre_b (List.drop 1 cX0_isLastOfSign.data.toList) [27]) = true ∧ (pre_b (List.drop 2 cX0_isLastOfSign.data.toList) [42]) = true ∧ (pre_b (List.drop 3 cX0_isLastOfSign.data.toList) [27]) = true ∧ (pre_b (List.drop 4 cX0_isLastOfSign.data.toList) [28]) = true ∧ (pre_b (List.drop 5 cX0_isLastOfSign.data.toList) [182, 0, 111] && Nat.beq (0 * 256 + 111) 111) = true ∧ (pre_b (List.drop 8 cX0_isLastOfSign.data.toList) [28]) = true ∧ (pre_b (List.drop 9 cX0_isLastOfSign.data.toList) [4]) = true ∧ (pre_b (List.drop 10 cX0_isLastOfSign.data.toList) [96]) = true ∧ (pre_b (List.drop 11 cX0_isLastOfSign.data.toList) [182, 0, 127] && Nat.beq (0 * 256 + 127) 127) = true ∧ (pre_b (List.drop 14 cX0_isLastOfSign.data.toList) [154, 0, 7] && decide (Reader.signed 16 (0 * 256 + 7) = 7)) = true ∧ (pre_b (List.drop 17 cX0_isLastOfSign.data.toList) [4]) = true := by decide +kernel
theorem dX0_isLastOfSign_0 : decode cX0_isLastOfSign 0 = .ok (.aload_n 0, 1) := oq_42 bdX0_isLastOfSign_0.1
theorem dX0_isLastOfSign_1 : decode cX0_isLastOfSign 1 = .ok (.iload_n 1, 1) := oq_27 bdX0_isLastOfSign_0.2.1
theorem dX0_isLastOfSign_2 : decode cX0_isLastOfSign 2 = .ok (.aload_n 0, 1) := oq_42 bdX0_isLastOfSign_0.2.2.1
theorem dX0_isLastOfSign_3 : decode cX0_isLastOfSign 3 = .ok (.iload_n 1, 1) := oq_27 bdX0_isLastOfSign_0.2.2.2.1
theorem dX0_isLastOfSign_4 : decode cX0_isLastOfSign 4 = .ok (.iload_n 2, 1) := oq_28 bdX0_isLastOfSign_0.2.2.2.2.1
theorem dX0_isLastOfSign_5 : decode cX0_isLastOfSign 5 = .ok (.invokevirtual 111, 3) := oq_182 bdX0_isLastOfSign_0.2.2.2.2.2.1
theorem dX0_isLastOfSign_8 : decode cX0_isLastOfSign 8 = .ok (.iload_n 2, 1) := oq_28 bdX0_isLastOfSign_0.2.2.2.2.2.2.1
theorem dX0_isLastOfSign_9 : decode cX0_isLastOfSign 9 = .ok (.iconst 1, 1) := oq_4 bdX0_isLastOfSign_0.2.2.2.2.2.2.2.1
theorem dX0_isLastOfSign_10 : decode cX0_isLastOfSign 10 = .ok (.iadd, 1) := oq_96 bdX0_isLastOfSign_0.2.2.2.2.2.2.2.2.1
theorem dX0_isLastOfSign_11 : decode cX0_isLastOfSign 11 = .ok (.invokevirtual 127, 3) := oq_182 bdX0_isLastOfSign_0.2.2.2.2.2.2.2.2.2.1
theorem dX0_isLastOfSign_14 : decode cX0_isLastOfSign 14 = .ok (.ifCond .ne 7, 3) := oq_154 bdX0_isLastOfSign_0.2.2.2.2.2.2.2.2.2.2.1
theorem dX0_isLastOfSign_17 : decode cX0_isLastOfSign 17 = .ok (.iconst 1, 1) := oq_4 bdX0_isLastOfSign_0.2.2.2.2.2.2.2.2.2.2.2
theorem bdX0_isLastOfSign_18 : (pre_b (List.drop 18 cX0_isLastOfSign.data.toList) [167, 0, 4] && decide (Reader.signed 16 (0 * 256 + 4) = 4)) = true ∧ (pre_b (List.drop 21 cX0_isLastOfSign.data.toList) [3]) = true ∧ (pre_b (List.drop 22 cX0_isLastOfSign.data.toList) [172]) = true := by decide +kernel
theorem dX0_isLastOfSign_18 : decode cX0_isLastOfSign 18 = .ok (.goto 4, 3) := oq_167 bdX0_isLastOfSign_18.1
theorem dX0_isLastOfSign_21 : decode cX0_isLastOfSign 21 = .ok (.iconst 0, 1) := oq_3 bdX0_isLastOfSign_18.2.1
theorem dX0_isLastOfSign_22 : decode cX0_isLastOfSign 22 = .ok (.ireturn, 1) := oq_172 bdX0_isLastOfSign_18.2.2
theorem bdX0_nearest_0 : (pre_b (List.drop 0 cX0_nearest.data.toList) [42]) = true ∧ (pre_b (List.drop 1 cX0_nearest.data.toList) [180, 0, 21] && Nat.beq (0 * 256 + 21) 21) = true ∧ (pre_b (List.drop 4 cX0_nearest.data.toList) [27]) = true ∧ (pre_b (List.drop 5 cX0_nearest.data.toList) [46]) = true ∧ (pre_b (List.drop 6 cX0_nearest.data.toList) [62]) = true ∧ (pre_b (List.drop 7 cX0_nearest.data.toList) [29]) = true ∧ (pre_b (List.drop 8 cX0_nearest.data.toList) [155, 0, 20] && decide (Reader.signed 16 (0 * 256 + 20) = 20)) = true ∧ (pre_b (List.drop 11 cX0_nearest.data.toList) [29]) = true ∧ (pre_b (List.drop 12 cX0_nearest.data.toList) [42]) = true ∧ (pre_b (List.drop 13 cX0_nearest.data.toList) [180, 0, 59] && Nat.beq (0 * 256 + 59) 59) = true ∧ (pre_b (List.drop 16 cX0_nearest.data.toList) [162, 0, 12] && decide (Reader.signed 16 (0 * 256 + 12) = 12)) = true ∧ (pre_b (List.drop 19 cX0_nearest.data.toList) [42]) = true := by decide +kernel
theorem dX0_nearest_0 : decode cX0_nearest 0 = .ok (.aload_n 0, 1) := oq_42 bdX0_nearest_0.1
theorem dX0_nearest_1 : decode cX0_nearest 1 = .ok (.getfield 21, 3) := oq_180 bdX0_nearest_0.2.1
theorem dX0_nearest_4 : decode cX0_nearest 4 = .ok (.iload_n 1, 1) := oq_27 bdX0_nearest_0.2.2.1
theorem dX0_nearest_5 : decode cX0_nearest 5 = .ok (.iaload, 1) := oq_46 bdX0_nearest_0.2.2.2.1
theorem dX0_nearest_6 : decode cX0_nearest 6 = .ok (.istore_n 3, 1) := oq_62 bdX0_nearest_0.2.2.2.2.1
theorem dX0_nearest_7 : decode cX0_nearest 7 = .ok (.iload_n 3, 1) := oq_29 bdX0_nearest_0.2.2.2.2.2.1
theorem dX0_nearest_8 : decode cX0_nearest 8 = .ok (.ifCond .lt 20, 3) := oq_155 bdX0_nearest_0.2.2.2.2.2.2.1
theorem dX0_nearest_11 : decode cX0_nearest 11 = .ok (.iload_n 3, 1) := oq_29 bdX0_nearest_0.2.2.2.2.2.2.2.1
theorem dX0_nearest_12 : decode cX0_nearest 12 = .ok (.aload_n 0, 1) := oq_42 bdX0_nearest_0.2.2.2.2.2.2.2.2.1
theorem dX0_nearest_13 : decode cX0_nearest 13 = .ok (.getfield 59, 3) := oq_180 bdX0_nearest_0.2.2.2.2.2.2.2.2.2.1
theorem dX0_nearest_16 : decode cX0_nearest 16 = .ok (.if_icmp .ge 12, 3) := oq_162 bdX0_nearest_0.2.2.2.2.2.2.2.2.2.2.1
theorem dX0_nearest_19 : decode cX0_nearest 19 = .ok (.aload_n 0, 1) := oq_42 bdX0_nearest_0.2.2.2.2.2.2.2.2.2.2.2
theorem bdX0_nearest_20 : (pre_b (List.drop 20 cX0_nearest.data.toList) [180, 0, 15] && Nat.beq (0 * 256 + 15) 15) = true ∧ (pre_b (List.drop 23 cX0_nearest.data.toList) [29]) = true ∧ (pre_b (List.drop 24 cX0_nearest.data.toList) [46]) = true ∧ (pre_b (List.drop 25 cX0_nearest.data.toList) [167, 0, 4] && decide (Reader.signed 16 (0 * 256 + 4) = 4)) = true ∧ (pre_b (List.drop 28 cX0_nearest.data.toList) [3]) = true ∧ (pre_b (List.drop 29 cX0_nearest.data.toList) [54, 4] && Nat.beq (4) 4) = true ∧ (pre_b (List.drop 31 cX0_nearest.data.toList) [29]) = true ∧ (pre_b (List.drop 32 cX0_nearest.data.toList) [16, 40] && decide (Reader.signed 8 (40) = 40)) = true ∧ (pre_b (List.drop 34 cX0_nearest.data.toList) [104]) = true ∧ (pre_b (List.drop 35 cX0_nearest.data.toList) [54, 5] && Nat.beq (5) 5) = true ∧ (pre_b (List.drop 37 cX0_nearest.data.toList) [42]) = true ∧ (pre_b (List.drop 38 cX0_nearest.data.toList) [180, 0, 42] && Nat.beq (0 * 256 + 42) 42) = true := by decide +kernel
theorem dX0_nearest_20 : decode cX0_nearest 20 = .ok (.getfield 15, 3) := oq_180 bdX0_nearest_20.1
theorem dX0_nearest_23 : decode cX0_nearest 23 = .ok (.iload_n 3, 1) := oq_29 bdX0_nearest_20.2.1
theorem dX0_nearest_24 : decode cX0_nearest 24 = .ok (.iaload, 1) := oq_46 bdX0_nearest_20.2.2.1
theorem dX0_nearest_25 : decode cX0_nearest 25 = .ok (.goto 4, 3) := oq_167 bdX0_nearest_20.2.2.2.1
theorem dX0_nearest_28 : decode cX0_nearest 28 = .ok (.iconst 0, 1) := oq_3 bdX0_nearest_20.2.2.2.2.1
theorem dX0_nearest_29 : decode cX0_nearest 29 = .ok (.istore 4, 2) := oq_54 bdX0_nearest_20.2.2.2.2.2.1
theorem dX0_nearest_31 : decode cX0_nearest 31 = .ok (.iload_n 3, 1) := oq_29 bdX0_nearest_20.2.2.2.2.2.2.1
theorem dX0_nearest_32 : decode cX0_nearest 32 = .ok (.bipush 40, 2) := oq_16 bdX0_nearest_20.2.2.2.2.2.2.2.1
theorem dX0_nearest_34 : decode cX0_nearest 34 = .ok (.imul, 1) := oq_104 bdX0_nearest_20.2.2.2.2.2.2.2.2.1
theorem dX0_nearest_35 : decode cX0_nearest 35 = .ok (.istore 5, 2) := oq_54 bdX0_nearest_20.2.2.2.2.2.2.2.2.2.1
theorem dX0_nearest_37 : decode cX0_nearest 37 = .ok (.aload_n 0, 1) := oq_42 bdX0_nearest_20.2.2.2.2.2.2.2.2.2.2.1
theorem dX0_nearest_38 : decode cX0_nearest 38 = .ok (.getfield 42, 3) := oq_180 bdX0_nearest_20.2.2.2.2.2.2.2.2.2.2.2
theorem bdX0_nearest_41 : (pre_b (List.drop 41 cX0_nearest.data.toList) [27]) = true ∧ (pre_b (List.drop 42 cX0_nearest.data.toList) [47]) = true ∧ (pre_b (List.drop 43 cX0_nearest.data.toList) [20, 0, 152] && Nat.beq (0 * 256 + 152) 152) = true ∧ (pre_b (List.drop 46 cX0_nearest.data.toList) [131]) = true ∧ (pre_b (List.drop 47 cX0_nearest.data.toList) [55, 6] && Nat.beq (6) 6) = true ∧ (pre_b (List.drop 49 cX0_nearest.data.toList) [42]) = true ∧ (pre_b (List.drop 50 cX0_nearest.data.toList) [180, 0, 27] && Nat.beq (0 * 256 + 27) 27) = true ∧ (pre_b (List.drop 53 cX0_nearest.data.toList) [27]) = true ∧ (pre_b (List.drop 54 cX0_nearest.data.toList) [46]) = true ∧ (pre_b (List.drop 55 cX0_nearest.data.toList) [54, 8] && Nat.beq (8) 8) = true ∧ (pre_b (List.drop 57 cX0_nearest.data.toList) [3]) = true ∧ (pre_b (List.drop 58 cX0_nearest.data.toList) [54, 9] && Nat.beq (9) 9) = true := by decide +kernel
theorem dX0_nearest_41 : decode cX0_nearest 41 = .ok (.iload_n 1, 1) := oq_27 bdX0_nearest_41.1
theorem dX0_nearest_42 : decode cX0_nearest 42 = .ok (.laload, 1) := oq_47 bdX0_nearest_41.2.1
theorem dX0_nearest_43 : decode cX0_nearest 43 = .ok (.ldc2_w 152, 3) := oq_20 bdX0_nearest_41.2.2.1
theorem dX0_nearest_46 : decode cX0_nearest 46 = .ok (.lxor, 1) := oq_131 bdX0_nearest_41.2.2.2.1
theorem dX0_nearest_47 : decode cX0_nearest 47 = .ok (.lstore 6, 2) := oq_55 bdX0_nearest_41.2.2.2.2.1
theorem dX0_nearest_49 : decode cX0_nearest 49 = .ok (.aload_n 0, 1) := oq_42 bdX0_nearest_41.2.2.2.2.2.1
theorem dX0_nearest_50 : decode cX0_nearest 50 = .ok (.getfield 27, 3) := oq_180 bdX0_nearest_41.2.2.2.2.2.2.1
theorem dX0_nearest_53 : decode cX0_nearest 53 = .ok (.iload_n 1, 1) := oq_27 bdX0_nearest_41.2.2.2.2.2.2.2.1
theorem dX0_nearest_54 : decode cX0_nearest 54 = .ok (.iaload, 1) := oq_46 bdX0_nearest_41.2.2.2.2.2.2.2.2.1
theorem dX0_nearest_55 : decode cX0_nearest 55 = .ok (.istore 8, 2) := oq_54 bdX0_nearest_41.2.2.2.2.2.2.2.2.2.1
theorem dX0_nearest_57 : decode cX0_nearest 57 = .ok (.iconst 0, 1) := oq_3 bdX0_nearest_41.2.2.2.2.2.2.2.2.2.2.1
theorem dX0_nearest_58 : decode cX0_nearest 58 = .ok (.istore 9, 2) := oq_54 bdX0_nearest_41.2.2.2.2.2.2.2.2.2.2.2
theorem bdX0_nearest_60 : (pre_b (List.drop 60 cX0_nearest.data.toList) [21, 9] && Nat.beq (9) 9) = true ∧ (pre_b (List.drop 62 cX0_nearest.data.toList) [21, 4] && Nat.beq (4) 4) = true ∧ (pre_b (List.drop 64 cX0_nearest.data.toList) [162, 0, 57] && decide (Reader.signed 16 (0 * 256 + 57) = 57)) = true ∧ (pre_b (List.drop 67 cX0_nearest.data.toList) [42]) = true ∧ (pre_b (List.drop 68 cX0_nearest.data.toList) [180, 0, 18] && Nat.beq (0 * 256 + 18) 18) = true ∧ (pre_b (List.drop 71 cX0_nearest.data.toList) [21, 5] && Nat.beq (5) 5) = true ∧ (pre_b (List.drop 73 cX0_nearest.data.toList) [21, 8] && Nat.beq (8) 8) = true ∧ (pre_b (List.drop 75 cX0_nearest.data.toList) [96]) = true ∧ (pre_b (List.drop 76 cX0_nearest.data.toList) [46]) = true ∧ (pre_b (List.drop 77 cX0_nearest.data.toList) [28]) = true ∧ (pre_b (List.drop 78 cX0_nearest.data.toList) [160, 0, 18] && decide (Reader.signed 16 (0 * 256 + 18) = 18)) = true ∧ (pre_b (List.drop 81 cX0_nearest.data.toList) [22, 6] && Nat.beq (6) 6) = true := by decide +kernel
theorem dX0_nearest_60 : decode cX0_nearest 60 = .ok (.iload 9, 2) := oq_21 bdX0_nearest_60.1
theorem dX0_nearest_62 : decode cX0_nearest 62 = .ok (.iload 4, 2) := oq_21 bdX0_nearest_60.2.1
theorem dX0_nearest_64 : decode cX0_nearest 64 = .ok (.if_icmp .ge 57, 3) := oq_162 bdX0_nearest_60.2.2.1
theorem dX0_nearest_67 : decode cX0_nearest 67 = .ok (.aload_n 0, 1) := oq_42 bdX0_nearest_60.2.2.2.1
theorem dX0_nearest_68 : decode cX0_nearest 68 = .ok (.getfield 18, 3) := oq_180 bdX0_nearest_60.2.2.2.2.1
theorem dX0_nearest_71 : decode cX0_nearest 71 = .ok (.iload 5, 2) := oq_21 bdX0_nearest_60.2.2.2.2.2.1
theorem dX0_nearest_73 : decode cX0_nearest 73 = .ok (.iload 8, 2) := oq_21 bdX0_nearest_60.2.2.2.2.2.2.1
theorem dX0_nearest_75 : decode cX0_nearest 75 = .ok (.iadd, 1) := oq_96 bdX0_nearest_60.2.2.2.2.2.2.2.1
theorem dX0_nearest_76 : decode cX0_nearest 76 = .ok (.iaload, 1) := oq_46 bdX0_nearest_60.2.2.2.2.2.2.2.2.1
theorem dX0_nearest_77 : decode cX0_nearest 77 = .ok (.iload_n 2, 1) := oq_28 bdX0_nearest_60.2.2.2.2.2.2.2.2.2.1
theorem dX0_nearest_78 : decode cX0_nearest 78 = .ok (.if_icmp .ne 18, 3) := oq_160 bdX0_nearest_60.2.2.2.2.2.2.2.2.2.2.1
theorem dX0_nearest_81 : decode cX0_nearest 81 = .ok (.lload 6, 2) := oq_22 bdX0_nearest_60.2.2.2.2.2.2.2.2.2.2.2
theorem bdX0_nearest_83 : (pre_b (List.drop 83 cX0_nearest.data.toList) [21, 8] && Nat.beq (8) 8) = true ∧ (pre_b (List.drop 85 cX0_nearest.data.toList) [123]) = true ∧ (pre_b (List.drop 86 cX0_nearest.data.toList) [10]) = true ∧ (pre_b (List.drop 87 cX0_nearest.data.toList) [127]) = true ∧ (pre_b (List.drop 88 cX0_nearest.data.toList) [9]) = true ∧ (pre_b (List.drop 89 cX0_nearest.data.toList) [148]) = true ∧ (pre_b (List.drop 90 cX0_nearest.data.toList) [153, 0, 6] && decide (Reader.signed 16 (0 * 256 + 6) = 6)) = true ∧ (pre_b (List.drop 93 cX0_nearest.data.toList) [21, 8] && Nat.beq (8) 8) = true ∧ (pre_b (List.drop 95 cX0_nearest.data.toList) [172]) = true ∧ (pre_b (List.drop 96 cX0_nearest.data.toList) [21, 8] && Nat.beq (8) 8) = true ∧ (pre_b (List.drop 98 cX0_nearest.data.toList) [4]) = true ∧ (pre_b (List.drop 99 cX0_nearest.data.toList) [96]) = true := by decide +kernel
theorem dX0_nearest_83 : decode cX0_nearest 83 = .ok (.iload 8, 2) := oq_21 bdX0_nearest_83.1
theorem dX0_nearest_85 : decode cX0_nearest 85 = .ok (.lshr, 1) := oq_123 bdX0_nearest_83.2.1
theorem dX0_nearest_86 : decode cX0_nearest 86 = .ok (.lconst 1, 1) := oq_10 bdX0_nearest_83.2.2.1
theorem dX0_nearest_87 : decode cX0_nearest 87 = .ok (.land, 1) := oq_127 bdX0_nearest_83.2.2.2.1
theorem dX0_nearest_88 : decode cX0_nearest 88 = .ok (.lconst 0, 1) := oq_9 bdX0_nearest_83.2.2.2.2.1
theorem dX0_nearest_89 : decode cX0_nearest 89 = .ok (.lcmp, 1) := oq_148 bdX0_nearest_83.2.2.2.2.2.1
theorem dX0_nearest_90 : decode cX0_nearest 90 = .ok (.ifCond .eq 6, 3) := oq_153 bdX0_nearest_83.2.2.2.2.2.2.1
theorem dX0_nearest_93 : decode cX0_nearest 93 = .ok (.iload 8, 2) := oq_21 bdX0_nearest_83.2.2.2.2.2.2.2.1
theorem dX0_nearest_95 : decode cX0_nearest 95 = .ok (.ireturn, 1) := oq_172 bdX0_nearest_83.2.2.2.2.2.2.2.2.1
theorem dX0_nearest_96 : decode cX0_nearest 96 = .ok (.iload 8, 2) := oq_21 bdX0_nearest_83.2.2.2.2.2.2.2.2.2.1
theorem dX0_nearest_98 : decode cX0_nearest 98 = .ok (.iconst 1, 1) := oq_4 bdX0_nearest_83.2.2.2.2.2.2.2.2.2.2.1
theorem dX0_nearest_99 : decode cX0_nearest 99 = .ok (.iadd, 1) := oq_96 bdX0_nearest_83.2.2.2.2.2.2.2.2.2.2.2
theorem bdX0_nearest_100 : (pre_b (List.drop 100 cX0_nearest.data.toList) [21, 4] && Nat.beq (4) 4) = true ∧ (pre_b (List.drop 102 cX0_nearest.data.toList) [162, 0, 10] && decide (Reader.signed 16 (0 * 256 + 10) = 10)) = true ∧ (pre_b (List.drop 105 cX0_nearest.data.toList) [21, 8] && Nat.beq (8) 8) = true ∧ (pre_b (List.drop 107 cX0_nearest.data.toList) [4]) = true ∧ (pre_b (List.drop 108 cX0_nearest.data.toList) [96]) = true ∧ (pre_b (List.drop 109 cX0_nearest.data.toList) [167, 0, 4] && decide (Reader.signed 16 (0 * 256 + 4) = 4)) = true ∧ (pre_b (List.drop 112 cX0_nearest.data.toList) [3]) = true ∧ (pre_b (List.drop 113 cX0_nearest.data.toList) [54, 8] && Nat.beq (8) 8) = true ∧ (pre_b (List.drop 115 cX0_nearest.data.toList) [132, 9, 1] && Nat.beq (9) 9 && decide (Reader.signed 8 (1) = 1)) = true ∧ (pre_b (List.drop 118 cX0_nearest.data.toList) [167, 255, 198] && decide (Reader.signed 16 (255 * 256 + 198) = (-58))) = true ∧ (pre_b (List.drop 121 cX0_nearest.data.toList) [2]) = true ∧ (pre_b (List.drop 122 cX0_nearest.data.toList) [172]) = true := by decide +kernel
theorem dX0_nearest_100 : decode cX0_nearest 100 = .ok (.iload 4, 2) := oq_21 bdX0_nearest_100.1
theorem dX0_nearest_102 : decode cX0_nearest 102 = .ok (.if_icmp .ge 10, 3) := oq_162 bdX0_nearest_100.2.1
theorem dX0_nearest_105 : decode cX0_nearest 105 = .ok (.iload 8, 2) := oq_21 bdX0_nearest_100.2.2.1
theorem dX0_nearest_107 : decode cX0_nearest 107 = .ok (.iconst 1, 1) := oq_4 bdX0_nearest_100.2.2.2.1
theorem dX0_nearest_108 : decode cX0_nearest 108 = .ok (.iadd, 1) := oq_96 bdX0_nearest_100.2.2.2.2.1
theorem dX0_nearest_109 : decode cX0_nearest 109 = .ok (.goto 4, 3) := oq_167 bdX0_nearest_100.2.2.2.2.2.1
theorem dX0_nearest_112 : decode cX0_nearest 112 = .ok (.iconst 0, 1) := oq_3 bdX0_nearest_100.2.2.2.2.2.2.1
theorem dX0_nearest_113 : decode cX0_nearest 113 = .ok (.istore 8, 2) := oq_54 bdX0_nearest_100.2.2.2.2.2.2.2.1
theorem dX0_nearest_115 : decode cX0_nearest 115 = .ok (.iinc 9 1, 3) := oq_132 bdX0_nearest_100.2.2.2.2.2.2.2.2.1
theorem dX0_nearest_118 : decode cX0_nearest 118 = .ok (.goto (-58), 3) := oq_167 bdX0_nearest_100.2.2.2.2.2.2.2.2.2.1
theorem dX0_nearest_121 : decode cX0_nearest 121 = .ok (.iconst (-1), 1) := oq_2 bdX0_nearest_100.2.2.2.2.2.2.2.2.2.2.1
theorem dX0_nearest_122 : decode cX0_nearest 122 = .ok (.ireturn, 1) := oq_172 bdX0_nearest_100.2.2.2.2.2.2.2.2.2.2.2
theorem bdX0_missedOfOwn_0 : (pre_b (List.drop 0 cX0_missedOfOwn.data.toList) [42]) = true ∧ (pre_b (List.drop 1 cX0_missedOfOwn.data.toList) [180, 0, 21] && Nat.beq (0 * 256 + 21) 21) = true ∧ (pre_b (List.drop 4 cX0_missedOfOwn.data.toList) [27]) = true ∧ (pre_b (List.drop 5 cX0_missedOfOwn.data.toList) [46]) = true ∧ (pre_b (List.drop 6 cX0_missedOfOwn.data.toList) [61]) = true ∧ (pre_b (List.drop 7 cX0_missedOfOwn.data.toList) [3]) = true ∧ (pre_b (List.drop 8 cX0_missedOfOwn.data.toList) [62]) = true ∧ (pre_b (List.drop 9 cX0_missedOfOwn.data.toList) [3]) = true ∧ (pre_b (List.drop 10 cX0_missedOfOwn.data.toList) [54, 4] && Nat.beq (4) 4) = true ∧ (pre_b (List.drop 12 cX0_missedOfOwn.data.toList) [21, 4] && Nat.beq (4) 4) = true ∧ (pre_b (List.drop 14 cX0_missedOfOwn.data.toList) [42]) = true ∧ (pre_b (List.drop 15 cX0_missedOfOwn.data.toList) [28]) = true := by decide +kernel
theorem dX0_missedOfOwn_0 : decode cX0_missedOfOwn 0 = .ok (.aload_n 0, 1) := oq_42 bdX0_missedOfOwn_0.1
theorem dX0_missedOfOwn_1 : decode cX0_missedOfOwn 1 = .ok (.getfield 21, 3) := oq_180 bdX0_missedOfOwn_0.2.1
theorem dX0_missedOfOwn_4 : decode cX0_missedOfOwn 4 = .ok (.iload_n 1, 1) := oq_27 bdX0_missedOfOwn_0.2.2.1
theorem dX0_missedOfOwn_5 : decode cX0_missedOfOwn 5 = .ok (.iaload, 1) := oq_46 bdX0_missedOfOwn_0.2.2.2.1
theorem dX0_missedOfOwn_6 : decode cX0_missedOfOwn 6 = .ok (.istore_n 2, 1) := oq_61 bdX0_missedOfOwn_0.2.2.2.2.1
theorem dX0_missedOfOwn_7 : decode cX0_missedOfOwn 7 = .ok (.iconst 0, 1) := oq_3 bdX0_missedOfOwn_0.2.2.2.2.2.1
theorem dX0_missedOfOwn_8 : decode cX0_missedOfOwn 8 = .ok (.istore_n 3, 1) := oq_62 bdX0_missedOfOwn_0.2.2.2.2.2.2.1
theorem dX0_missedOfOwn_9 : decode cX0_missedOfOwn 9 = .ok (.iconst 0, 1) := oq_3 bdX0_missedOfOwn_0.2.2.2.2.2.2.2.1
theorem dX0_missedOfOwn_10 : decode cX0_missedOfOwn 10 = .ok (.istore 4, 2) := oq_54 bdX0_missedOfOwn_0.2.2.2.2.2.2.2.2.1
theorem dX0_missedOfOwn_12 : decode cX0_missedOfOwn 12 = .ok (.iload 4, 2) := oq_21 bdX0_missedOfOwn_0.2.2.2.2.2.2.2.2.2.1
theorem dX0_missedOfOwn_14 : decode cX0_missedOfOwn 14 = .ok (.aload_n 0, 1) := oq_42 bdX0_missedOfOwn_0.2.2.2.2.2.2.2.2.2.2.1
theorem dX0_missedOfOwn_15 : decode cX0_missedOfOwn 15 = .ok (.iload_n 2, 1) := oq_28 bdX0_missedOfOwn_0.2.2.2.2.2.2.2.2.2.2.2
theorem bdX0_missedOfOwn_16 : (pre_b (List.drop 16 cX0_missedOfOwn.data.toList) [182, 0, 108] && Nat.beq (0 * 256 + 108) 108) = true ∧ (pre_b (List.drop 19 cX0_missedOfOwn.data.toList) [162, 0, 38] && decide (Reader.signed 16 (0 * 256 + 38) = 38)) = true ∧ (pre_b (List.drop 22 cX0_missedOfOwn.data.toList) [42]) = true ∧ (pre_b (List.drop 23 cX0_missedOfOwn.data.toList) [28]) = true ∧ (pre_b (List.drop 24 cX0_missedOfOwn.data.toList) [21, 4] && Nat.beq (4) 4) = true ∧ (pre_b (List.drop 26 cX0_missedOfOwn.data.toList) [182, 0, 134] && Nat.beq (0 * 256 + 134) 134) = true ∧ (pre_b (List.drop 29 cX0_missedOfOwn.data.toList) [153, 0, 22] && decide (Reader.signed 16 (0 * 256 + 22) = 22)) = true ∧ (pre_b (List.drop 32 cX0_missedOfOwn.data.toList) [42]) = true ∧ (pre_b (List.drop 33 cX0_missedOfOwn.data.toList) [27]) = true ∧ (pre_b (List.drop 34 cX0_missedOfOwn.data.toList) [42]) = true ∧ (pre_b (List.drop 35 cX0_missedOfOwn.data.toList) [28]) = true ∧ (pre_b (List.drop 36 cX0_missedOfOwn.data.toList) [21, 4] && Nat.beq (4) 4) = true := by decide +kernel
theorem dX0_missedOfOwn_16 : decode cX0_missedOfOwn 16 = .ok (.invokevirtual 108, 3) := oq_182 bdX0_missedOfOwn_16.1
theorem dX0_missedOfOwn_19 : decode cX0_missedOfOwn 19 = .ok (.if_icmp .ge 38, 3) := oq_162 bdX0_missedOfOwn_16.2.1
theorem dX0_missedOfOwn_22 : decode cX0_missedOfOwn 22 = .ok (.aload_n 0, 1) := oq_42 bdX0_missedOfOwn_16.2.2.1
theorem dX0_missedOfOwn_23 : decode cX0_missedOfOwn 23 = .ok (.iload_n 2, 1) := oq_28 bdX0_missedOfOwn_16.2.2.2.1
theorem dX0_missedOfOwn_24 : decode cX0_missedOfOwn 24 = .ok (.iload 4, 2) := oq_21 bdX0_missedOfOwn_16.2.2.2.2.1
theorem dX0_missedOfOwn_26 : decode cX0_missedOfOwn 26 = .ok (.invokevirtual 134, 3) := oq_182 bdX0_missedOfOwn_16.2.2.2.2.2.1
theorem dX0_missedOfOwn_29 : decode cX0_missedOfOwn 29 = .ok (.ifCond .eq 22, 3) := oq_153 bdX0_missedOfOwn_16.2.2.2.2.2.2.1
theorem dX0_missedOfOwn_32 : decode cX0_missedOfOwn 32 = .ok (.aload_n 0, 1) := oq_42 bdX0_missedOfOwn_16.2.2.2.2.2.2.2.1
theorem dX0_missedOfOwn_33 : decode cX0_missedOfOwn 33 = .ok (.iload_n 1, 1) := oq_27 bdX0_missedOfOwn_16.2.2.2.2.2.2.2.2.1
theorem dX0_missedOfOwn_34 : decode cX0_missedOfOwn 34 = .ok (.aload_n 0, 1) := oq_42 bdX0_missedOfOwn_16.2.2.2.2.2.2.2.2.2.1
theorem dX0_missedOfOwn_35 : decode cX0_missedOfOwn 35 = .ok (.iload_n 2, 1) := oq_28 bdX0_missedOfOwn_16.2.2.2.2.2.2.2.2.2.2.1
theorem dX0_missedOfOwn_36 : decode cX0_missedOfOwn 36 = .ok (.iload 4, 2) := oq_21 bdX0_missedOfOwn_16.2.2.2.2.2.2.2.2.2.2.2
theorem bdX0_missedOfOwn_38 : (pre_b (List.drop 38 cX0_missedOfOwn.data.toList) [182, 0, 111] && Nat.beq (0 * 256 + 111) 111) = true ∧ (pre_b (List.drop 41 cX0_missedOfOwn.data.toList) [182, 0, 137] && Nat.beq (0 * 256 + 137) 137) = true ∧ (pre_b (List.drop 44 cX0_missedOfOwn.data.toList) [2]) = true ∧ (pre_b (List.drop 45 cX0_missedOfOwn.data.toList) [160, 0, 6] && decide (Reader.signed 16 (0 * 256 + 6) = 6)) = true ∧ (pre_b (List.drop 48 cX0_missedOfOwn.data.toList) [132, 3, 1] && Nat.beq (3) 3 && decide (Reader.signed 8 (1) = 1)) = true ∧ (pre_b (List.drop 51 cX0_missedOfOwn.data.toList) [132, 4, 1] && Nat.beq (4) 4 && decide (Reader.signed 8 (1) = 1)) = true ∧ (pre_b (List.drop 54 cX0_missedOfOwn.data.toList) [167, 255, 214] && decide (Reader.signed 16 (255 * 256 + 214) = (-42))) = true ∧ (pre_b (List.drop 57 cX0_missedOfOwn.data.toList) [29]) = true ∧ (pre_b (List.drop 58 cX0_missedOfOwn.data.toList) [172]) = true := by decide +kernel
theorem dX0_missedOfOwn_38 : decode cX0_missedOfOwn 38 = .ok (.invokevirtual 111, 3) := oq_182 bdX0_missedOfOwn_38.1
theorem dX0_missedOfOwn_41 : decode cX0_missedOfOwn 41 = .ok (.invokevirtual 137, 3) := oq_182 bdX0_missedOfOwn_38.2.1
theorem dX0_missedOfOwn_44 : decode cX0_missedOfOwn 44 = .ok (.iconst (-1), 1) := oq_2 bdX0_missedOfOwn_38.2.2.1
theorem dX0_missedOfOwn_45 : decode cX0_missedOfOwn 45 = .ok (.if_icmp .ne 6, 3) := oq_160 bdX0_missedOfOwn_38.2.2.2.1
theorem dX0_missedOfOwn_48 : decode cX0_missedOfOwn 48 = .ok (.iinc 3 1, 3) := oq_132 bdX0_missedOfOwn_38.2.2.2.2.1
theorem dX0_missedOfOwn_51 : decode cX0_missedOfOwn 51 = .ok (.iinc 4 1, 3) := oq_132 bdX0_missedOfOwn_38.2.2.2.2.2.1
theorem dX0_missedOfOwn_54 : decode cX0_missedOfOwn 54 = .ok (.goto (-42), 3) := oq_167 bdX0_missedOfOwn_38.2.2.2.2.2.2.1
theorem dX0_missedOfOwn_57 : decode cX0_missedOfOwn 57 = .ok (.iload_n 3, 1) := oq_29 bdX0_missedOfOwn_38.2.2.2.2.2.2.2.1
theorem dX0_missedOfOwn_58 : decode cX0_missedOfOwn 58 = .ok (.ireturn, 1) := oq_172 bdX0_missedOfOwn_38.2.2.2.2.2.2.2.2
theorem bdX0_signsOfOthers_0 : (pre_b (List.drop 0 cX0_signsOfOthers.data.toList) [3]) = true ∧ (pre_b (List.drop 1 cX0_signsOfOthers.data.toList) [61]) = true ∧ (pre_b (List.drop 2 cX0_signsOfOthers.data.toList) [16, 32] && decide (Reader.signed 8 (32) = 32)) = true ∧ (pre_b (List.drop 4 cX0_signsOfOthers.data.toList) [62]) = true ∧ (pre_b (List.drop 5 cX0_signsOfOthers.data.toList) [29]) = true ∧ (pre_b (List.drop 6 cX0_signsOfOthers.data.toList) [16, 126] && decide (Reader.signed 8 (126) = 126)) = true ∧ (pre_b (List.drop 8 cX0_signsOfOthers.data.toList) [163, 0, 29] && decide (Reader.signed 16 (0 * 256 + 29) = 29)) = true ∧ (pre_b (List.drop 11 cX0_signsOfOthers.data.toList) [42]) = true ∧ (pre_b (List.drop 12 cX0_signsOfOthers.data.toList) [29]) = true ∧ (pre_b (List.drop 13 cX0_signsOfOthers.data.toList) [182, 0, 140] && Nat.beq (0 * 256 + 140) 140) = true ∧ (pre_b (List.drop 16 cX0_signsOfOthers.data.toList) [153, 0, 15] && decide (Reader.signed 16 (0 * 256 + 15) = 15)) = true ∧ (pre_b (List.drop 19 cX0_signsOfOthers.data.toList) [42]) = true := by decide +kernel
theorem dX0_signsOfOthers_0 : decode cX0_signsOfOthers 0 = .ok (.iconst 0, 1) := oq_3 bdX0_signsOfOthers_0.1
theorem dX0_signsOfOthers_1 : decode cX0_signsOfOthers 1 = .ok (.istore_n 2, 1) := oq_61 bdX0_signsOfOthers_0.2.1
theorem dX0_signsOfOthers_2 : decode cX0_signsOfOthers 2 = .ok (.bipush 32, 2) := oq_16 bdX0_signsOfOthers_0.2.2.1
theorem dX0_signsOfOthers_4 : decode cX0_signsOfOthers 4 = .ok (.istore_n 3, 1) := oq_62 bdX0_signsOfOthers_0.2.2.2.1
theorem dX0_signsOfOthers_5 : decode cX0_signsOfOthers 5 = .ok (.iload_n 3, 1) := oq_29 bdX0_signsOfOthers_0.2.2.2.2.1
theorem dX0_signsOfOthers_6 : decode cX0_signsOfOthers 6 = .ok (.bipush 126, 2) := oq_16 bdX0_signsOfOthers_0.2.2.2.2.2.1
theorem dX0_signsOfOthers_8 : decode cX0_signsOfOthers 8 = .ok (.if_icmp .gt 29, 3) := oq_163 bdX0_signsOfOthers_0.2.2.2.2.2.2.1
theorem dX0_signsOfOthers_11 : decode cX0_signsOfOthers 11 = .ok (.aload_n 0, 1) := oq_42 bdX0_signsOfOthers_0.2.2.2.2.2.2.2.1
theorem dX0_signsOfOthers_12 : decode cX0_signsOfOthers 12 = .ok (.iload_n 3, 1) := oq_29 bdX0_signsOfOthers_0.2.2.2.2.2.2.2.2.1
theorem dX0_signsOfOthers_13 : decode cX0_signsOfOthers 13 = .ok (.invokevirtual 140, 3) := oq_182 bdX0_signsOfOthers_0.2.2.2.2.2.2.2.2.2.1
theorem dX0_signsOfOthers_16 : decode cX0_signsOfOthers 16 = .ok (.ifCond .eq 15, 3) := oq_153 bdX0_signsOfOthers_0.2.2.2.2.2.2.2.2.2.2.1
theorem dX0_signsOfOthers_19 : decode cX0_signsOfOthers 19 = .ok (.aload_n 0, 1) := oq_42 bdX0_signsOfOthers_0.2.2.2.2.2.2.2.2.2.2.2
theorem bdX0_signsOfOthers_20 : (pre_b (List.drop 20 cX0_signsOfOthers.data.toList) [27]) = true ∧ (pre_b (List.drop 21 cX0_signsOfOthers.data.toList) [29]) = true ∧ (pre_b (List.drop 22 cX0_signsOfOthers.data.toList) [182, 0, 131] && Nat.beq (0 * 256 + 131) 131) = true ∧ (pre_b (List.drop 25 cX0_signsOfOthers.data.toList) [154, 0, 6] && decide (Reader.signed 16 (0 * 256 + 6) = 6)) = true ∧ (pre_b (List.drop 28 cX0_signsOfOthers.data.toList) [132, 2, 1] && Nat.beq (2) 2 && decide (Reader.signed 8 (1) = 1)) = true ∧ (pre_b (List.drop 31 cX0_signsOfOthers.data.toList) [132, 3, 1] && Nat.beq (3) 3 && decide (Reader.signed 8 (1) = 1)) = true ∧ (pre_b (List.drop 34 cX0_signsOfOthers.data.toList) [167, 255, 227] && decide (Reader.signed 16 (255 * 256 + 227) = (-29))) = true ∧ (pre_b (List.drop 37 cX0_signsOfOthers.data.toList) [28]) = true ∧ (pre_b (List.drop 38 cX0_signsOfOthers.data.toList) [172]) = true := by decide +kernel
theorem dX0_signsOfOthers_20 : decode cX0_signsOfOthers 20 = .ok (.iload_n 1, 1) := oq_27 bdX0_signsOfOthers_20.1
theorem dX0_signsOfOthers_21 : decode cX0_signsOfOthers 21 = .ok (.iload_n 3, 1) := oq_29 bdX0_signsOfOthers_20.2.1
theorem dX0_signsOfOthers_22 : decode cX0_signsOfOthers 22 = .ok (.invokevirtual 131, 3) := oq_182 bdX0_signsOfOthers_20.2.2.1
theorem dX0_signsOfOthers_25 : decode cX0_signsOfOthers 25 = .ok (.ifCond .ne 6, 3) := oq_154 bdX0_signsOfOthers_20.2.2.2.1
theorem dX0_signsOfOthers_28 : decode cX0_signsOfOthers 28 = .ok (.iinc 2 1, 3) := oq_132 bdX0_signsOfOthers_20.2.2.2.2.1
theorem dX0_signsOfOthers_31 : decode cX0_signsOfOthers 31 = .ok (.iinc 3 1, 3) := oq_132 bdX0_signsOfOthers_20.2.2.2.2.2.1
theorem dX0_signsOfOthers_34 : decode cX0_signsOfOthers 34 = .ok (.goto (-29), 3) := oq_167 bdX0_signsOfOthers_20.2.2.2.2.2.2.1
theorem dX0_signsOfOthers_37 : decode cX0_signsOfOthers 37 = .ok (.iload_n 2, 1) := oq_28 bdX0_signsOfOthers_20.2.2.2.2.2.2.2.1
theorem dX0_signsOfOthers_38 : decode cX0_signsOfOthers 38 = .ok (.ireturn, 1) := oq_172 bdX0_signsOfOthers_20.2.2.2.2.2.2.2.2
theorem bdX0_unlikeSigns_0 : (pre_b (List.drop 0 cX0_unlikeSigns.data.toList) [3]) = true ∧ (pre_b (List.drop 1 cX0_unlikeSigns.data.toList) [61]) = true ∧ (pre_b (List.drop 2 cX0_unlikeSigns.data.toList) [3]) = true ∧ (pre_b (List.drop 3 cX0_unlikeSigns.data.toList) [62]) = true ∧ (pre_b (List.drop 4 cX0_unlikeSigns.data.toList) [29]) = true ∧ (pre_b (List.drop 5 cX0_unlikeSigns.data.toList) [42]) = true ∧ (pre_b (List.drop 6 cX0_unlikeSigns.data.toList) [27]) = true ∧ (pre_b (List.drop 7 cX0_unlikeSigns.data.toList) [182, 0, 108] && Nat.beq (0 * 256 + 108) 108) = true ∧ (pre_b (List.drop 10 cX0_unlikeSigns.data.toList) [162, 0, 21] && decide (Reader.signed 16 (0 * 256 + 21) = 21)) = true ∧ (pre_b (List.drop 13 cX0_unlikeSigns.data.toList) [42]) = true ∧ (pre_b (List.drop 14 cX0_unlikeSigns.data.toList) [27]) = true ∧ (pre_b (List.drop 15 cX0_unlikeSigns.data.toList) [29]) = true := by decide +kernel
theorem dX0_unlikeSigns_0 : decode cX0_unlikeSigns 0 = .ok (.iconst 0, 1) := oq_3 bdX0_unlikeSigns_0.1
theorem dX0_unlikeSigns_1 : decode cX0_unlikeSigns 1 = .ok (.istore_n 2, 1) := oq_61 bdX0_unlikeSigns_0.2.1
theorem dX0_unlikeSigns_2 : decode cX0_unlikeSigns 2 = .ok (.iconst 0, 1) := oq_3 bdX0_unlikeSigns_0.2.2.1
theorem dX0_unlikeSigns_3 : decode cX0_unlikeSigns 3 = .ok (.istore_n 3, 1) := oq_62 bdX0_unlikeSigns_0.2.2.2.1
theorem dX0_unlikeSigns_4 : decode cX0_unlikeSigns 4 = .ok (.iload_n 3, 1) := oq_29 bdX0_unlikeSigns_0.2.2.2.2.1
theorem dX0_unlikeSigns_5 : decode cX0_unlikeSigns 5 = .ok (.aload_n 0, 1) := oq_42 bdX0_unlikeSigns_0.2.2.2.2.2.1
theorem dX0_unlikeSigns_6 : decode cX0_unlikeSigns 6 = .ok (.iload_n 1, 1) := oq_27 bdX0_unlikeSigns_0.2.2.2.2.2.2.1
theorem dX0_unlikeSigns_7 : decode cX0_unlikeSigns 7 = .ok (.invokevirtual 108, 3) := oq_182 bdX0_unlikeSigns_0.2.2.2.2.2.2.2.1
theorem dX0_unlikeSigns_10 : decode cX0_unlikeSigns 10 = .ok (.if_icmp .ge 21, 3) := oq_162 bdX0_unlikeSigns_0.2.2.2.2.2.2.2.2.1
theorem dX0_unlikeSigns_13 : decode cX0_unlikeSigns 13 = .ok (.aload_n 0, 1) := oq_42 bdX0_unlikeSigns_0.2.2.2.2.2.2.2.2.2.1
theorem dX0_unlikeSigns_14 : decode cX0_unlikeSigns 14 = .ok (.iload_n 1, 1) := oq_27 bdX0_unlikeSigns_0.2.2.2.2.2.2.2.2.2.2.1
theorem dX0_unlikeSigns_15 : decode cX0_unlikeSigns 15 = .ok (.iload_n 3, 1) := oq_29 bdX0_unlikeSigns_0.2.2.2.2.2.2.2.2.2.2.2
theorem bdX0_unlikeSigns_16 : (pre_b (List.drop 16 cX0_unlikeSigns.data.toList) [182, 0, 134] && Nat.beq (0 * 256 + 134) 134) = true ∧ (pre_b (List.drop 19 cX0_unlikeSigns.data.toList) [153, 0, 6] && decide (Reader.signed 16 (0 * 256 + 6) = 6)) = true ∧ (pre_b (List.drop 22 cX0_unlikeSigns.data.toList) [132, 2, 1] && Nat.beq (2) 2 && decide (Reader.signed 8 (1) = 1)) = true ∧ (pre_b (List.drop 25 cX0_unlikeSigns.data.toList) [132, 3, 1] && Nat.beq (3) 3 && decide (Reader.signed 8 (1) = 1)) = true ∧ (pre_b (List.drop 28 cX0_unlikeSigns.data.toList) [167, 255, 232] && decide (Reader.signed 16 (255 * 256 + 232) = (-24))) = true ∧ (pre_b (List.drop 31 cX0_unlikeSigns.data.toList) [28]) = true ∧ (pre_b (List.drop 32 cX0_unlikeSigns.data.toList) [172]) = true := by decide +kernel
theorem dX0_unlikeSigns_16 : decode cX0_unlikeSigns 16 = .ok (.invokevirtual 134, 3) := oq_182 bdX0_unlikeSigns_16.1
theorem dX0_unlikeSigns_19 : decode cX0_unlikeSigns 19 = .ok (.ifCond .eq 6, 3) := oq_153 bdX0_unlikeSigns_16.2.1
theorem dX0_unlikeSigns_22 : decode cX0_unlikeSigns 22 = .ok (.iinc 2 1, 3) := oq_132 bdX0_unlikeSigns_16.2.2.1
theorem dX0_unlikeSigns_25 : decode cX0_unlikeSigns 25 = .ok (.iinc 3 1, 3) := oq_132 bdX0_unlikeSigns_16.2.2.2.1
theorem dX0_unlikeSigns_28 : decode cX0_unlikeSigns 28 = .ok (.goto (-24), 3) := oq_167 bdX0_unlikeSigns_16.2.2.2.2.1
theorem dX0_unlikeSigns_31 : decode cX0_unlikeSigns 31 = .ok (.iload_n 2, 1) := oq_28 bdX0_unlikeSigns_16.2.2.2.2.2.1
theorem dX0_unlikeSigns_32 : decode cX0_unlikeSigns 32 = .ok (.ireturn, 1) := oq_172 bdX0_unlikeSigns_16.2.2.2.2.2.2
theorem bdX0_mostOfOneSign_0 : (pre_b (List.drop 0 cX0_mostOfOneSign.data.toList) [3]) = true ∧ (pre_b (List.drop 1 cX0_mostOfOneSign.data.toList) [61]) = true ∧ (pre_b (List.drop 2 cX0_mostOfOneSign.data.toList) [3]) = true ∧ (pre_b (List.drop 3 cX0_mostOfOneSign.data.toList) [62]) = true ∧ (pre_b (List.drop 4 cX0_mostOfOneSign.data.toList) [29]) = true ∧ (pre_b (List.drop 5 cX0_mostOfOneSign.data.toList) [42]) = true ∧ (pre_b (List.drop 6 cX0_mostOfOneSign.data.toList) [27]) = true ∧ (pre_b (List.drop 7 cX0_mostOfOneSign.data.toList) [182, 0, 108] && Nat.beq (0 * 256 + 108) 108) = true ∧ (pre_b (List.drop 10 cX0_mostOfOneSign.data.toList) [162, 0, 26] && decide (Reader.signed 16 (0 * 256 + 26) = 26)) = true ∧ (pre_b (List.drop 13 cX0_mostOfOneSign.data.toList) [28]) = true ∧ (pre_b (List.drop 14 cX0_mostOfOneSign.data.toList) [42]) = true ∧ (pre_b (List.drop 15 cX0_mostOfOneSign.data.toList) [27]) = true := by decide +kernel
theorem dX0_mostOfOneSign_0 : decode cX0_mostOfOneSign 0 = .ok (.iconst 0, 1) := oq_3 bdX0_mostOfOneSign_0.1
theorem dX0_mostOfOneSign_1 : decode cX0_mostOfOneSign 1 = .ok (.istore_n 2, 1) := oq_61 bdX0_mostOfOneSign_0.2.1
theorem dX0_mostOfOneSign_2 : decode cX0_mostOfOneSign 2 = .ok (.iconst 0, 1) := oq_3 bdX0_mostOfOneSign_0.2.2.1
theorem dX0_mostOfOneSign_3 : decode cX0_mostOfOneSign 3 = .ok (.istore_n 3, 1) := oq_62 bdX0_mostOfOneSign_0.2.2.2.1
theorem dX0_mostOfOneSign_4 : decode cX0_mostOfOneSign 4 = .ok (.iload_n 3, 1) := oq_29 bdX0_mostOfOneSign_0.2.2.2.2.1
theorem dX0_mostOfOneSign_5 : decode cX0_mostOfOneSign 5 = .ok (.aload_n 0, 1) := oq_42 bdX0_mostOfOneSign_0.2.2.2.2.2.1
theorem dX0_mostOfOneSign_6 : decode cX0_mostOfOneSign 6 = .ok (.iload_n 1, 1) := oq_27 bdX0_mostOfOneSign_0.2.2.2.2.2.2.1
theorem dX0_mostOfOneSign_7 : decode cX0_mostOfOneSign 7 = .ok (.invokevirtual 108, 3) := oq_182 bdX0_mostOfOneSign_0.2.2.2.2.2.2.2.1
theorem dX0_mostOfOneSign_10 : decode cX0_mostOfOneSign 10 = .ok (.if_icmp .ge 26, 3) := oq_162 bdX0_mostOfOneSign_0.2.2.2.2.2.2.2.2.1
theorem dX0_mostOfOneSign_13 : decode cX0_mostOfOneSign 13 = .ok (.iload_n 2, 1) := oq_28 bdX0_mostOfOneSign_0.2.2.2.2.2.2.2.2.2.1
theorem dX0_mostOfOneSign_14 : decode cX0_mostOfOneSign 14 = .ok (.aload_n 0, 1) := oq_42 bdX0_mostOfOneSign_0.2.2.2.2.2.2.2.2.2.2.1
theorem dX0_mostOfOneSign_15 : decode cX0_mostOfOneSign 15 = .ok (.iload_n 1, 1) := oq_27 bdX0_mostOfOneSign_0.2.2.2.2.2.2.2.2.2.2.2
theorem bdX0_mostOfOneSign_16 : (pre_b (List.drop 16 cX0_mostOfOneSign.data.toList) [42]) = true ∧ (pre_b (List.drop 17 cX0_mostOfOneSign.data.toList) [27]) = true ∧ (pre_b (List.drop 18 cX0_mostOfOneSign.data.toList) [29]) = true ∧ (pre_b (List.drop 19 cX0_mostOfOneSign.data.toList) [182, 0, 111] && Nat.beq (0 * 256 + 111) 111) = true ∧ (pre_b (List.drop 22 cX0_mostOfOneSign.data.toList) [29]) = true ∧ (pre_b (List.drop 23 cX0_mostOfOneSign.data.toList) [182, 0, 127] && Nat.beq (0 * 256 + 127) 127) = true ∧ (pre_b (List.drop 26 cX0_mostOfOneSign.data.toList) [184, 0, 143] && Nat.beq (0 * 256 + 143) 143) = true ∧ (pre_b (List.drop 29 cX0_mostOfOneSign.data.toList) [61]) = true ∧ (pre_b (List.drop 30 cX0_mostOfOneSign.data.toList) [132, 3, 1] && Nat.beq (3) 3 && decide (Reader.signed 8 (1) = 1)) = true ∧ (pre_b (List.drop 33 cX0_mostOfOneSign.data.toList) [167, 255, 227] && decide (Reader.signed 16 (255 * 256 + 227) = (-29))) = true ∧ (pre_b (List.drop 36 cX0_mostOfOneSign.data.toList) [28]) = true ∧ (pre_b (List.drop 37 cX0_mostOfOneSign.data.toList) [172]) = true := by decide +kernel
theorem dX0_mostOfOneSign_16 : decode cX0_mostOfOneSign 16 = .ok (.aload_n 0, 1) := oq_42 bdX0_mostOfOneSign_16.1
theorem dX0_mostOfOneSign_17 : decode cX0_mostOfOneSign 17 = .ok (.iload_n 1, 1) := oq_27 bdX0_mostOfOneSign_16.2.1
theorem dX0_mostOfOneSign_18 : decode cX0_mostOfOneSign 18 = .ok (.iload_n 3, 1) := oq_29 bdX0_mostOfOneSign_16.2.2.1
theorem dX0_mostOfOneSign_19 : decode cX0_mostOfOneSign 19 = .ok (.invokevirtual 111, 3) := oq_182 bdX0_mostOfOneSign_16.2.2.2.1
theorem dX0_mostOfOneSign_22 : decode cX0_mostOfOneSign 22 = .ok (.iload_n 3, 1) := oq_29 bdX0_mostOfOneSign_16.2.2.2.2.1
theorem dX0_mostOfOneSign_23 : decode cX0_mostOfOneSign 23 = .ok (.invokevirtual 127, 3) := oq_182 bdX0_mostOfOneSign_16.2.2.2.2.2.1
theorem dX0_mostOfOneSign_26 : decode cX0_mostOfOneSign 26 = .ok (.invokestatic 143, 3) := oq_184 bdX0_mostOfOneSign_16.2.2.2.2.2.2.1
theorem dX0_mostOfOneSign_29 : decode cX0_mostOfOneSign 29 = .ok (.istore_n 2, 1) := oq_61 bdX0_mostOfOneSign_16.2.2.2.2.2.2.2.1
theorem dX0_mostOfOneSign_30 : decode cX0_mostOfOneSign 30 = .ok (.iinc 3 1, 3) := oq_132 bdX0_mostOfOneSign_16.2.2.2.2.2.2.2.2.1
theorem dX0_mostOfOneSign_33 : decode cX0_mostOfOneSign 33 = .ok (.goto (-29), 3) := oq_167 bdX0_mostOfOneSign_16.2.2.2.2.2.2.2.2.2.1
theorem dX0_mostOfOneSign_36 : decode cX0_mostOfOneSign 36 = .ok (.iload_n 2, 1) := oq_28 bdX0_mostOfOneSign_16.2.2.2.2.2.2.2.2.2.2.1
theorem dX0_mostOfOneSign_37 : decode cX0_mostOfOneSign 37 = .ok (.ireturn, 1) := oq_172 bdX0_mostOfOneSign_16.2.2.2.2.2.2.2.2.2.2.2
theorem bdX0_isWorn_0 : (pre_b (List.drop 0 cX0_isWorn.data.toList) [42]) = true ∧ (pre_b (List.drop 1 cX0_isWorn.data.toList) [180, 0, 42] && Nat.beq (0 * 256 + 42) 42) = true ∧ (pre_b (List.drop 4 cX0_isWorn.data.toList) [27]) = true ∧ (pre_b (List.drop 5 cX0_isWorn.data.toList) [47]) = true ∧ (pre_b (List.drop 6 cX0_isWorn.data.toList) [28]) = true ∧ (pre_b (List.drop 7 cX0_isWorn.data.toList) [123]) = true ∧ (pre_b (List.drop 8 cX0_isWorn.data.toList) [10]) = true ∧ (pre_b (List.drop 9 cX0_isWorn.data.toList) [127]) = true ∧ (pre_b (List.drop 10 cX0_isWorn.data.toList) [9]) = true ∧ (pre_b (List.drop 11 cX0_isWorn.data.toList) [148]) = true ∧ (pre_b (List.drop 12 cX0_isWorn.data.toList) [153, 0, 7] && decide (Reader.signed 16 (0 * 256 + 7) = 7)) = true ∧ (pre_b (List.drop 15 cX0_isWorn.data.toList) [4]) = true := by decide +kernel
theorem dX0_isWorn_0 : decode cX0_isWorn 0 = .ok (.aload_n 0, 1) := oq_42 bdX0_isWorn_0.1
theorem dX0_isWorn_1 : decode cX0_isWorn 1 = .ok (.getfield 42, 3) := oq_180 bdX0_isWorn_0.2.1
theorem dX0_isWorn_4 : decode cX0_isWorn 4 = .ok (.iload_n 1, 1) := oq_27 bdX0_isWorn_0.2.2.1
theorem dX0_isWorn_5 : decode cX0_isWorn 5 = .ok (.laload, 1) := oq_47 bdX0_isWorn_0.2.2.2.1
theorem dX0_isWorn_6 : decode cX0_isWorn 6 = .ok (.iload_n 2, 1) := oq_28 bdX0_isWorn_0.2.2.2.2.1
theorem dX0_isWorn_7 : decode cX0_isWorn 7 = .ok (.lshr, 1) := oq_123 bdX0_isWorn_0.2.2.2.2.2.1
theorem dX0_isWorn_8 : decode cX0_isWorn 8 = .ok (.lconst 1, 1) := oq_10 bdX0_isWorn_0.2.2.2.2.2.2.1
theorem dX0_isWorn_9 : decode cX0_isWorn 9 = .ok (.land, 1) := oq_127 bdX0_isWorn_0.2.2.2.2.2.2.2.1
theorem dX0_isWorn_10 : decode cX0_isWorn 10 = .ok (.lconst 0, 1) := oq_9 bdX0_isWorn_0.2.2.2.2.2.2.2.2.1
theorem dX0_isWorn_11 : decode cX0_isWorn 11 = .ok (.lcmp, 1) := oq_148 bdX0_isWorn_0.2.2.2.2.2.2.2.2.2.1
theorem dX0_isWorn_12 : decode cX0_isWorn 12 = .ok (.ifCond .eq 7, 3) := oq_153 bdX0_isWorn_0.2.2.2.2.2.2.2.2.2.2.1
theorem dX0_isWorn_15 : decode cX0_isWorn 15 = .ok (.iconst 1, 1) := oq_4 bdX0_isWorn_0.2.2.2.2.2.2.2.2.2.2.2
theorem bdX0_isWorn_16 : (pre_b (List.drop 16 cX0_isWorn.data.toList) [167, 0, 4] && decide (Reader.signed 16 (0 * 256 + 4) = 4)) = true ∧ (pre_b (List.drop 19 cX0_isWorn.data.toList) [3]) = true ∧ (pre_b (List.drop 20 cX0_isWorn.data.toList) [172]) = true := by decide +kernel
theorem dX0_isWorn_16 : decode cX0_isWorn 16 = .ok (.goto 4, 3) := oq_167 bdX0_isWorn_16.1
theorem dX0_isWorn_19 : decode cX0_isWorn 19 = .ok (.iconst 0, 1) := oq_3 bdX0_isWorn_16.2.1
theorem dX0_isWorn_20 : decode cX0_isWorn 20 = .ok (.ireturn, 1) := oq_172 bdX0_isWorn_16.2.2
theorem bdJ13_bitCount_95d88_0 : (pre_b (List.drop 0 cJ13_bitCount_95d88.data.toList) [30]) = true ∧ (pre_b (List.drop 1 cJ13_bitCount_95d88.data.toList) [30]) = true ∧ (pre_b (List.drop 2 cJ13_bitCount_95d88.data.toList) [4]) = true ∧ (pre_b (List.drop 3 cJ13_bitCount_95d88.data.toList) [125]) = true ∧ (pre_b (List.drop 4 cJ13_bitCount_95d88.data.toList) [20, 1, 58] && Nat.beq (1 * 256 + 58) 314) = true ∧ (pre_b (List.drop 7 cJ13_bitCount_95d88.data.toList) [127]) = true ∧ (pre_b (List.drop 8 cJ13_bitCount_95d88.data.toList) [101]) = true ∧ (pre_b (List.drop 9 cJ13_bitCount_95d88.data.toList) [63]) = true ∧ (pre_b (List.drop 10 cJ13_bitCount_95d88.data.toList) [30]) = true ∧ (pre_b (List.drop 11 cJ13_bitCount_95d88.data.toList) [20, 1, 60] && Nat.beq (1 * 256 + 60) 316) = true ∧ (pre_b (List.drop 14 cJ13_bitCount_95d88.data.toList) [127]) = true ∧ (pre_b (List.drop 15 cJ13_bitCount_95d88.data.toList) [30]) = true := by decide +kernel
theorem dJ13_bitCount_95d88_0 : decode cJ13_bitCount_95d88 0 = .ok (.lload_n 0, 1) := oq_30 bdJ13_bitCount_95d88_0.1
theorem dJ13_bitCount_95d88_1 : decode cJ13_bitCount_95d88 1 = .ok (.lload_n 0, 1) := oq_30 bdJ13_bitCount_95d88_0.2.1
theorem dJ13_bitCount_95d88_2 : decode cJ13_bitCount_95d88 2 = .ok (.iconst 1, 1) := oq_4 bdJ13_bitCount_95d88_0.2.2.1
theorem dJ13_bitCount_95d88_3 : decode cJ13_bitCount_95d88 3 = .ok (.lushr, 1) := oq_125 bdJ13_bitCount_95d88_0.2.2.2.1
theorem dJ13_bitCount_95d88_4 : decode cJ13_bitCount_95d88 4 = .ok (.ldc2_w 314, 3) := oq_20 bdJ13_bitCount_95d88_0.2.2.2.2.1
theorem dJ13_bitCount_95d88_7 : decode cJ13_bitCount_95d88 7 = .ok (.land, 1) := oq_127 bdJ13_bitCount_95d88_0.2.2.2.2.2.1
theorem dJ13_bitCount_95d88_8 : decode cJ13_bitCount_95d88 8 = .ok (.lsub, 1) := oq_101 bdJ13_bitCount_95d88_0.2.2.2.2.2.2.1
theorem dJ13_bitCount_95d88_9 : decode cJ13_bitCount_95d88 9 = .ok (.lstore_n 0, 1) := oq_63 bdJ13_bitCount_95d88_0.2.2.2.2.2.2.2.1
theorem dJ13_bitCount_95d88_10 : decode cJ13_bitCount_95d88 10 = .ok (.lload_n 0, 1) := oq_30 bdJ13_bitCount_95d88_0.2.2.2.2.2.2.2.2.1
theorem dJ13_bitCount_95d88_11 : decode cJ13_bitCount_95d88 11 = .ok (.ldc2_w 316, 3) := oq_20 bdJ13_bitCount_95d88_0.2.2.2.2.2.2.2.2.2.1
theorem dJ13_bitCount_95d88_14 : decode cJ13_bitCount_95d88 14 = .ok (.land, 1) := oq_127 bdJ13_bitCount_95d88_0.2.2.2.2.2.2.2.2.2.2.1
theorem dJ13_bitCount_95d88_15 : decode cJ13_bitCount_95d88 15 = .ok (.lload_n 0, 1) := oq_30 bdJ13_bitCount_95d88_0.2.2.2.2.2.2.2.2.2.2.2
theorem bdJ13_bitCount_95d88_16 : (pre_b (List.drop 16 cJ13_bitCount_95d88.data.toList) [5]) = true ∧ (pre_b (List.drop 17 cJ13_bitCount_95d88.data.toList) [125]) = true ∧ (pre_b (List.drop 18 cJ13_bitCount_95d88.data.toList) [20, 1, 60] && Nat.beq (1 * 256 + 60) 316) = true ∧ (pre_b (List.drop 21 cJ13_bitCount_95d88.data.toList) [127]) = true ∧ (pre_b (List.drop 22 cJ13_bitCount_95d88.data.toList) [97]) = true ∧ (pre_b (List.drop 23 cJ13_bitCount_95d88.data.toList) [63]) = true ∧ (pre_b (List.drop 24 cJ13_bitCount_95d88.data.toList) [30]) = true ∧ (pre_b (List.drop 25 cJ13_bitCount_95d88.data.toList) [30]) = true ∧ (pre_b (List.drop 26 cJ13_bitCount_95d88.data.toList) [7]) = true ∧ (pre_b (List.drop 27 cJ13_bitCount_95d88.data.toList) [125]) = true ∧ (pre_b (List.drop 28 cJ13_bitCount_95d88.data.toList) [97]) = true ∧ (pre_b (List.drop 29 cJ13_bitCount_95d88.data.toList) [20, 1, 62] && Nat.beq (1 * 256 + 62) 318) = true := by decide +kernel
theorem dJ13_bitCount_95d88_16 : decode cJ13_bitCount_95d88 16 = .ok (.iconst 2, 1) := oq_5 bdJ13_bitCount_95d88_16.1
theorem dJ13_bitCount_95d88_17 : decode cJ13_bitCount_95d88 17 = .ok (.lushr, 1) := oq_125 bdJ13_bitCount_95d88_16.2.1
theorem dJ13_bitCount_95d88_18 : decode cJ13_bitCount_95d88 18 = .ok (.ldc2_w 316, 3) := oq_20 bdJ13_bitCount_95d88_16.2.2.1
theorem dJ13_bitCount_95d88_21 : decode cJ13_bitCount_95d88 21 = .ok (.land, 1) := oq_127 bdJ13_bitCount_95d88_16.2.2.2.1
theorem dJ13_bitCount_95d88_22 : decode cJ13_bitCount_95d88 22 = .ok (.ladd, 1) := oq_97 bdJ13_bitCount_95d88_16.2.2.2.2.1
theorem dJ13_bitCount_95d88_23 : decode cJ13_bitCount_95d88 23 = .ok (.lstore_n 0, 1) := oq_63 bdJ13_bitCount_95d88_16.2.2.2.2.2.1
theorem dJ13_bitCount_95d88_24 : decode cJ13_bitCount_95d88 24 = .ok (.lload_n 0, 1) := oq_30 bdJ13_bitCount_95d88_16.2.2.2.2.2.2.1
theorem dJ13_bitCount_95d88_25 : decode cJ13_bitCount_95d88 25 = .ok (.lload_n 0, 1) := oq_30 bdJ13_bitCount_95d88_16.2.2.2.2.2.2.2.1
theorem dJ13_bitCount_95d88_26 : decode cJ13_bitCount_95d88 26 = .ok (.iconst 4, 1) := oq_7 bdJ13_bitCount_95d88_16.2.2.2.2.2.2.2.2.1
theorem dJ13_bitCount_95d88_27 : decode cJ13_bitCount_95d88 27 = .ok (.lushr, 1) := oq_125 bdJ13_bitCount_95d88_16.2.2.2.2.2.2.2.2.2.1
theorem dJ13_bitCount_95d88_28 : decode cJ13_bitCount_95d88 28 = .ok (.ladd, 1) := oq_97 bdJ13_bitCount_95d88_16.2.2.2.2.2.2.2.2.2.2.1
theorem dJ13_bitCount_95d88_29 : decode cJ13_bitCount_95d88 29 = .ok (.ldc2_w 318, 3) := oq_20 bdJ13_bitCount_95d88_16.2.2.2.2.2.2.2.2.2.2.2
theorem bdJ13_bitCount_95d88_32 : (pre_b (List.drop 32 cJ13_bitCount_95d88.data.toList) [127]) = true ∧ (pre_b (List.drop 33 cJ13_bitCount_95d88.data.toList) [63]) = true ∧ (pre_b (List.drop 34 cJ13_bitCount_95d88.data.toList) [30]) = true ∧ (pre_b (List.drop 35 cJ13_bitCount_95d88.data.toList) [30]) = true ∧ (pre_b (List.drop 36 cJ13_bitCount_95d88.data.toList) [16, 8] && decide (Reader.signed 8 (8) = 8)) = true ∧ (pre_b (List.drop 38 cJ13_bitCount_95d88.data.toList) [125]) = true ∧ (pre_b (List.drop 39 cJ13_bitCount_95d88.data.toList) [97]) = true ∧ (pre_b (List.drop 40 cJ13_bitCount_95d88.data.toList) [63]) = true ∧ (pre_b (List.drop 41 cJ13_bitCount_95d88.data.toList) [30]) = true ∧ (pre_b (List.drop 42 cJ13_bitCount_95d88.data.toList) [30]) = true ∧ (pre_b (List.drop 43 cJ13_bitCount_95d88.data.toList) [16, 16] && decide (Reader.signed 8 (16) = 16)) = true ∧ (pre_b (List.drop 45 cJ13_bitCount_95d88.data.toList) [125]) = true := by decide +kernel
theorem dJ13_bitCount_95d88_32 : decode cJ13_bitCount_95d88 32 = .ok (.land, 1) := oq_127 bdJ13_bitCount_95d88_32.1
theorem dJ13_bitCount_95d88_33 : decode cJ13_bitCount_95d88 33 = .ok (.lstore_n 0, 1) := oq_63 bdJ13_bitCount_95d88_32.2.1
theorem dJ13_bitCount_95d88_34 : decode cJ13_bitCount_95d88 34 = .ok (.lload_n 0, 1) := oq_30 bdJ13_bitCount_95d88_32.2.2.1
theorem dJ13_bitCount_95d88_35 : decode cJ13_bitCount_95d88 35 = .ok (.lload_n 0, 1) := oq_30 bdJ13_bitCount_95d88_32.2.2.2.1
theorem dJ13_bitCount_95d88_36 : decode cJ13_bitCount_95d88 36 = .ok (.bipush 8, 2) := oq_16 bdJ13_bitCount_95d88_32.2.2.2.2.1
theorem dJ13_bitCount_95d88_38 : decode cJ13_bitCount_95d88 38 = .ok (.lushr, 1) := oq_125 bdJ13_bitCount_95d88_32.2.2.2.2.2.1
theorem dJ13_bitCount_95d88_39 : decode cJ13_bitCount_95d88 39 = .ok (.ladd, 1) := oq_97 bdJ13_bitCount_95d88_32.2.2.2.2.2.2.1
theorem dJ13_bitCount_95d88_40 : decode cJ13_bitCount_95d88 40 = .ok (.lstore_n 0, 1) := oq_63 bdJ13_bitCount_95d88_32.2.2.2.2.2.2.2.1
theorem dJ13_bitCount_95d88_41 : decode cJ13_bitCount_95d88 41 = .ok (.lload_n 0, 1) := oq_30 bdJ13_bitCount_95d88_32.2.2.2.2.2.2.2.2.1
theorem dJ13_bitCount_95d88_42 : decode cJ13_bitCount_95d88 42 = .ok (.lload_n 0, 1) := oq_30 bdJ13_bitCount_95d88_32.2.2.2.2.2.2.2.2.2.1
theorem dJ13_bitCount_95d88_43 : decode cJ13_bitCount_95d88 43 = .ok (.bipush 16, 2) := oq_16 bdJ13_bitCount_95d88_32.2.2.2.2.2.2.2.2.2.2.1
theorem dJ13_bitCount_95d88_45 : decode cJ13_bitCount_95d88 45 = .ok (.lushr, 1) := oq_125 bdJ13_bitCount_95d88_32.2.2.2.2.2.2.2.2.2.2.2
theorem bdJ13_bitCount_95d88_46 : (pre_b (List.drop 46 cJ13_bitCount_95d88.data.toList) [97]) = true ∧ (pre_b (List.drop 47 cJ13_bitCount_95d88.data.toList) [63]) = true ∧ (pre_b (List.drop 48 cJ13_bitCount_95d88.data.toList) [30]) = true ∧ (pre_b (List.drop 49 cJ13_bitCount_95d88.data.toList) [30]) = true ∧ (pre_b (List.drop 50 cJ13_bitCount_95d88.data.toList) [16, 32] && decide (Reader.signed 8 (32) = 32)) = true ∧ (pre_b (List.drop 52 cJ13_bitCount_95d88.data.toList) [125]) = true ∧ (pre_b (List.drop 53 cJ13_bitCount_95d88.data.toList) [97]) = true ∧ (pre_b (List.drop 54 cJ13_bitCount_95d88.data.toList) [63]) = true ∧ (pre_b (List.drop 55 cJ13_bitCount_95d88.data.toList) [30]) = true ∧ (pre_b (List.drop 56 cJ13_bitCount_95d88.data.toList) [136]) = true ∧ (pre_b (List.drop 57 cJ13_bitCount_95d88.data.toList) [16, 127] && decide (Reader.signed 8 (127) = 127)) = true ∧ (pre_b (List.drop 59 cJ13_bitCount_95d88.data.toList) [126]) = true := by decide +kernel
theorem dJ13_bitCount_95d88_46 : decode cJ13_bitCount_95d88 46 = .ok (.ladd, 1) := oq_97 bdJ13_bitCount_95d88_46.1
theorem dJ13_bitCount_95d88_47 : decode cJ13_bitCount_95d88 47 = .ok (.lstore_n 0, 1) := oq_63 bdJ13_bitCount_95d88_46.2.1
theorem dJ13_bitCount_95d88_48 : decode cJ13_bitCount_95d88 48 = .ok (.lload_n 0, 1) := oq_30 bdJ13_bitCount_95d88_46.2.2.1
theorem dJ13_bitCount_95d88_49 : decode cJ13_bitCount_95d88 49 = .ok (.lload_n 0, 1) := oq_30 bdJ13_bitCount_95d88_46.2.2.2.1
theorem dJ13_bitCount_95d88_50 : decode cJ13_bitCount_95d88 50 = .ok (.bipush 32, 2) := oq_16 bdJ13_bitCount_95d88_46.2.2.2.2.1
theorem dJ13_bitCount_95d88_52 : decode cJ13_bitCount_95d88 52 = .ok (.lushr, 1) := oq_125 bdJ13_bitCount_95d88_46.2.2.2.2.2.1
theorem dJ13_bitCount_95d88_53 : decode cJ13_bitCount_95d88 53 = .ok (.ladd, 1) := oq_97 bdJ13_bitCount_95d88_46.2.2.2.2.2.2.1
theorem dJ13_bitCount_95d88_54 : decode cJ13_bitCount_95d88 54 = .ok (.lstore_n 0, 1) := oq_63 bdJ13_bitCount_95d88_46.2.2.2.2.2.2.2.1
theorem dJ13_bitCount_95d88_55 : decode cJ13_bitCount_95d88 55 = .ok (.lload_n 0, 1) := oq_30 bdJ13_bitCount_95d88_46.2.2.2.2.2.2.2.2.1
theorem dJ13_bitCount_95d88_56 : decode cJ13_bitCount_95d88 56 = .ok (.l2i, 1) := oq_136 bdJ13_bitCount_95d88_46.2.2.2.2.2.2.2.2.2.1
theorem dJ13_bitCount_95d88_57 : decode cJ13_bitCount_95d88 57 = .ok (.bipush 127, 2) := oq_16 bdJ13_bitCount_95d88_46.2.2.2.2.2.2.2.2.2.2.1
theorem dJ13_bitCount_95d88_59 : decode cJ13_bitCount_95d88 59 = .ok (.iand, 1) := oq_126 bdJ13_bitCount_95d88_46.2.2.2.2.2.2.2.2.2.2.2
theorem bdJ13_bitCount_95d88_60 : (pre_b (List.drop 60 cJ13_bitCount_95d88.data.toList) [172]) = true := by decide +kernel
theorem dJ13_bitCount_95d88_60 : decode cJ13_bitCount_95d88 60 = .ok (.ireturn, 1) := oq_172 bdJ13_bitCount_95d88_60
theorem bdX0_wornCount_0 : (pre_b (List.drop 0 cX0_wornCount.data.toList) [42]) = true ∧ (pre_b (List.drop 1 cX0_wornCount.data.toList) [180, 0, 42] && Nat.beq (0 * 256 + 42) 42) = true ∧ (pre_b (List.drop 4 cX0_wornCount.data.toList) [27]) = true ∧ (pre_b (List.drop 5 cX0_wornCount.data.toList) [47]) = true ∧ (pre_b (List.drop 6 cX0_wornCount.data.toList) [184, 0, 146] && Nat.beq (0 * 256 + 146) 146) = true ∧ (pre_b (List.drop 9 cX0_wornCount.data.toList) [172]) = true := by decide +kernel
theorem dX0_wornCount_0 : decode cX0_wornCount 0 = .ok (.aload_n 0, 1) := oq_42 bdX0_wornCount_0.1
theorem dX0_wornCount_1 : decode cX0_wornCount 1 = .ok (.getfield 42, 3) := oq_180 bdX0_wornCount_0.2.1
theorem dX0_wornCount_4 : decode cX0_wornCount 4 = .ok (.iload_n 1, 1) := oq_27 bdX0_wornCount_0.2.2.1
theorem dX0_wornCount_5 : decode cX0_wornCount 5 = .ok (.laload, 1) := oq_47 bdX0_wornCount_0.2.2.2.1
theorem dX0_wornCount_6 : decode cX0_wornCount 6 = .ok (.invokestatic 146, 3) := oq_184 bdX0_wornCount_0.2.2.2.2.1
theorem dX0_wornCount_9 : decode cX0_wornCount 9 = .ok (.ireturn, 1) := oq_172 bdX0_wornCount_0.2.2.2.2.2
theorem bdX0_wearFlap_0 : (pre_b (List.drop 0 cX0_wearFlap.data.toList) [42]) = true ∧ (pre_b (List.drop 1 cX0_wearFlap.data.toList) [180, 0, 42] && Nat.beq (0 * 256 + 42) 42) = true ∧ (pre_b (List.drop 4 cX0_wearFlap.data.toList) [27]) = true ∧ (pre_b (List.drop 5 cX0_wearFlap.data.toList) [92]) = true ∧ (pre_b (List.drop 6 cX0_wearFlap.data.toList) [47]) = true ∧ (pre_b (List.drop 7 cX0_wearFlap.data.toList) [10]) = true ∧ (pre_b (List.drop 8 cX0_wearFlap.data.toList) [28]) = true ∧ (pre_b (List.drop 9 cX0_wearFlap.data.toList) [121]) = true ∧ (pre_b (List.drop 10 cX0_wearFlap.data.toList) [129]) = true ∧ (pre_b (List.drop 11 cX0_wearFlap.data.toList) [80]) = true ∧ (pre_b (List.drop 12 cX0_wearFlap.data.toList) [42]) = true ∧ (pre_b (List.drop 13 cX0_wearFlap.data.toList) [180, 0, 30] && Nat.beq (0 * 256 + 30) 30) = true := by decide +kernel
theorem dX0_wearFlap_0 : decode cX0_wearFlap 0 = .ok (.aload_n 0, 1) := oq_42 bdX0_wearFlap_0.1
theorem dX0_wearFlap_1 : decode cX0_wearFlap 1 = .ok (.getfield 42, 3) := oq_180 bdX0_wearFlap_0.2.1
theorem dX0_wearFlap_4 : decode cX0_wearFlap 4 = .ok (.iload_n 1, 1) := oq_27 bdX0_wearFlap_0.2.2.1
theorem dX0_wearFlap_5 : decode cX0_wearFlap 5 = .ok (.dup2, 1) := oq_92 bdX0_wearFlap_0.2.2.2.1
theorem dX0_wearFlap_6 : decode cX0_wearFlap 6 = .ok (.laload, 1) := oq_47 bdX0_wearFlap_0.2.2.2.2.1
theorem dX0_wearFlap_7 : decode cX0_wearFlap 7 = .ok (.lconst 1, 1) := oq_10 bdX0_wearFlap_0.2.2.2.2.2.1
theorem dX0_wearFlap_8 : decode cX0_wearFlap 8 = .ok (.iload_n 2, 1) := oq_28 bdX0_wearFlap_0.2.2.2.2.2.2.1
theorem dX0_wearFlap_9 : decode cX0_wearFlap 9 = .ok (.lshl, 1) := oq_121 bdX0_wearFlap_0.2.2.2.2.2.2.2.1
theorem dX0_wearFlap_10 : decode cX0_wearFlap 10 = .ok (.lor, 1) := oq_129 bdX0_wearFlap_0.2.2.2.2.2.2.2.2.1
theorem dX0_wearFlap_11 : decode cX0_wearFlap 11 = .ok (.lastore, 1) := oq_80 bdX0_wearFlap_0.2.2.2.2.2.2.2.2.2.1
theorem dX0_wearFlap_12 : decode cX0_wearFlap 12 = .ok (.aload_n 0, 1) := oq_42 bdX0_wearFlap_0.2.2.2.2.2.2.2.2.2.2.1
theorem dX0_wearFlap_13 : decode cX0_wearFlap 13 = .ok (.getfield 30, 3) := oq_180 bdX0_wearFlap_0.2.2.2.2.2.2.2.2.2.2.2
theorem bdX0_wearFlap_16 : (pre_b (List.drop 16 cX0_wearFlap.data.toList) [27]) = true ∧ (pre_b (List.drop 17 cX0_wearFlap.data.toList) [46]) = true ∧ (pre_b (List.drop 18 cX0_wearFlap.data.toList) [28]) = true ∧ (pre_b (List.drop 19 cX0_wearFlap.data.toList) [160, 0, 10] && decide (Reader.signed 16 (0 * 256 + 10) = 10)) = true ∧ (pre_b (List.drop 22 cX0_wearFlap.data.toList) [42]) = true ∧ (pre_b (List.drop 23 cX0_wearFlap.data.toList) [180, 0, 30] && Nat.beq (0 * 256 + 30) 30) = true ∧ (pre_b (List.drop 26 cX0_wearFlap.data.toList) [27]) = true ∧ (pre_b (List.drop 27 cX0_wearFlap.data.toList) [3]) = true ∧ (pre_b (List.drop 28 cX0_wearFlap.data.toList) [79]) = true ∧ (pre_b (List.drop 29 cX0_wearFlap.data.toList) [177]) = true := by decide +kernel
theorem dX0_wearFlap_16 : decode cX0_wearFlap 16 = .ok (.iload_n 1, 1) := oq_27 bdX0_wearFlap_16.1
theorem dX0_wearFlap_17 : decode cX0_wearFlap 17 = .ok (.iaload, 1) := oq_46 bdX0_wearFlap_16.2.1
theorem dX0_wearFlap_18 : decode cX0_wearFlap 18 = .ok (.iload_n 2, 1) := oq_28 bdX0_wearFlap_16.2.2.1
theorem dX0_wearFlap_19 : decode cX0_wearFlap 19 = .ok (.if_icmp .ne 10, 3) := oq_160 bdX0_wearFlap_16.2.2.2.1
theorem dX0_wearFlap_22 : decode cX0_wearFlap 22 = .ok (.aload_n 0, 1) := oq_42 bdX0_wearFlap_16.2.2.2.2.1
theorem dX0_wearFlap_23 : decode cX0_wearFlap 23 = .ok (.getfield 30, 3) := oq_180 bdX0_wearFlap_16.2.2.2.2.2.1
theorem dX0_wearFlap_26 : decode cX0_wearFlap 26 = .ok (.iload_n 1, 1) := oq_27 bdX0_wearFlap_16.2.2.2.2.2.2.1
theorem dX0_wearFlap_27 : decode cX0_wearFlap 27 = .ok (.iconst 0, 1) := oq_3 bdX0_wearFlap_16.2.2.2.2.2.2.2.1
theorem dX0_wearFlap_28 : decode cX0_wearFlap 28 = .ok (.iastore, 1) := oq_79 bdX0_wearFlap_16.2.2.2.2.2.2.2.2.1
theorem dX0_wearFlap_29 : decode cX0_wearFlap 29 = .ok (.return_, 1) := oq_177 bdX0_wearFlap_16.2.2.2.2.2.2.2.2.2
theorem bdX0_mendFlap_0 : (pre_b (List.drop 0 cX0_mendFlap.data.toList) [42]) = true ∧ (pre_b (List.drop 1 cX0_mendFlap.data.toList) [180, 0, 42] && Nat.beq (0 * 256 + 42) 42) = true ∧ (pre_b (List.drop 4 cX0_mendFlap.data.toList) [27]) = true ∧ (pre_b (List.drop 5 cX0_mendFlap.data.toList) [92]) = true ∧ (pre_b (List.drop 6 cX0_mendFlap.data.toList) [47]) = true ∧ (pre_b (List.drop 7 cX0_mendFlap.data.toList) [10]) = true ∧ (pre_b (List.drop 8 cX0_mendFlap.data.toList) [28]) = true ∧ (pre_b (List.drop 9 cX0_mendFlap.data.toList) [121]) = true ∧ (pre_b (List.drop 10 cX0_mendFlap.data.toList) [20, 0, 152] && Nat.beq (0 * 256 + 152) 152) = true ∧ (pre_b (List.drop 13 cX0_mendFlap.data.toList) [131]) = true ∧ (pre_b (List.drop 14 cX0_mendFlap.data.toList) [127]) = true ∧ (pre_b (List.drop 15 cX0_mendFlap.data.toList) [80]) = true := by decide +kernel
theorem dX0_mendFlap_0 : decode cX0_mendFlap 0 = .ok (.aload_n 0, 1) := oq_42 bdX0_mendFlap_0.1
theorem dX0_mendFlap_1 : decode cX0_mendFlap 1 = .ok (.getfield 42, 3) := oq_180 bdX0_mendFlap_0.2.1
theorem dX0_mendFlap_4 : decode cX0_mendFlap 4 = .ok (.iload_n 1, 1) := oq_27 bdX0_mendFlap_0.2.2.1
theorem dX0_mendFlap_5 : decode cX0_mendFlap 5 = .ok (.dup2, 1) := oq_92 bdX0_mendFlap_0.2.2.2.1
theorem dX0_mendFlap_6 : decode cX0_mendFlap 6 = .ok (.laload, 1) := oq_47 bdX0_mendFlap_0.2.2.2.2.1
theorem dX0_mendFlap_7 : decode cX0_mendFlap 7 = .ok (.lconst 1, 1) := oq_10 bdX0_mendFlap_0.2.2.2.2.2.1
theorem dX0_mendFlap_8 : decode cX0_mendFlap 8 = .ok (.iload_n 2, 1) := oq_28 bdX0_mendFlap_0.2.2.2.2.2.2.1
theorem dX0_mendFlap_9 : decode cX0_mendFlap 9 = .ok (.lshl, 1) := oq_121 bdX0_mendFlap_0.2.2.2.2.2.2.2.1
theorem dX0_mendFlap_10 : decode cX0_mendFlap 10 = .ok (.ldc2_w 152, 3) := oq_20 bdX0_mendFlap_0.2.2.2.2.2.2.2.2.1
theorem dX0_mendFlap_13 : decode cX0_mendFlap 13 = .ok (.lxor, 1) := oq_131 bdX0_mendFlap_0.2.2.2.2.2.2.2.2.2.1
theorem dX0_mendFlap_14 : decode cX0_mendFlap 14 = .ok (.land, 1) := oq_127 bdX0_mendFlap_0.2.2.2.2.2.2.2.2.2.2.1
theorem dX0_mendFlap_15 : decode cX0_mendFlap 15 = .ok (.lastore, 1) := oq_80 bdX0_mendFlap_0.2.2.2.2.2.2.2.2.2.2.2
theorem bdX0_mendFlap_16 : (pre_b (List.drop 16 cX0_mendFlap.data.toList) [177]) = true := by decide +kernel
theorem dX0_mendFlap_16 : decode cX0_mendFlap 16 = .ok (.return_, 1) := oq_177 bdX0_mendFlap_16
theorem bdX6_onFrom_0 : (pre_b (List.drop 0 cX6_onFrom.data.toList) [27]) = true ∧ (pre_b (List.drop 1 cX6_onFrom.data.toList) [26]) = true ∧ (pre_b (List.drop 2 cX6_onFrom.data.toList) [161, 0, 9] && decide (Reader.signed 16 (0 * 256 + 9) = 9)) = true ∧ (pre_b (List.drop 5 cX6_onFrom.data.toList) [27]) = true ∧ (pre_b (List.drop 6 cX6_onFrom.data.toList) [26]) = true ∧ (pre_b (List.drop 7 cX6_onFrom.data.toList) [100]) = true ∧ (pre_b (List.drop 8 cX6_onFrom.data.toList) [167, 0, 8] && decide (Reader.signed 16 (0 * 256 + 8) = 8)) = true ∧ (pre_b (List.drop 11 cX6_onFrom.data.toList) [27]) = true ∧ (pre_b (List.drop 12 cX6_onFrom.data.toList) [26]) = true ∧ (pre_b (List.drop 13 cX6_onFrom.data.toList) [100]) = true ∧ (pre_b (List.drop 14 cX6_onFrom.data.toList) [28]) = true ∧ (pre_b (List.drop 15 cX6_onFrom.data.toList) [96]) = true := by decide +kernel
theorem dX6_onFrom_0 : decode cX6_onFrom 0 = .ok (.iload_n 1, 1) := oq_27 bdX6_onFrom_0.1
theorem dX6_onFrom_1 : decode cX6_onFrom 1 = .ok (.iload_n 0, 1) := oq_26 bdX6_onFrom_0.2.1
theorem dX6_onFrom_2 : decode cX6_onFrom 2 = .ok (.if_icmp .lt 9, 3) := oq_161 bdX6_onFrom_0.2.2.1
theorem dX6_onFrom_5 : decode cX6_onFrom 5 = .ok (.iload_n 1, 1) := oq_27 bdX6_onFrom_0.2.2.2.1
theorem dX6_onFrom_6 : decode cX6_onFrom 6 = .ok (.iload_n 0, 1) := oq_26 bdX6_onFrom_0.2.2.2.2.1
theorem dX6_onFrom_7 : decode cX6_onFrom 7 = .ok (.isub, 1) := oq_100 bdX6_onFrom_0.2.2.2.2.2.1
theorem dX6_onFrom_8 : decode cX6_onFrom 8 = .ok (.goto 8, 3) := oq_167 bdX6_onFrom_0.2.2.2.2.2.2.1
theorem dX6_onFrom_11 : decode cX6_onFrom 11 = .ok (.iload_n 1, 1) := oq_27 bdX6_onFrom_0.2.2.2.2.2.2.2.1
theorem dX6_onFrom_12 : decode cX6_onFrom 12 = .ok (.iload_n 0, 1) := oq_26 bdX6_onFrom_0.2.2.2.2.2.2.2.2.1
theorem dX6_onFrom_13 : decode cX6_onFrom 13 = .ok (.isub, 1) := oq_100 bdX6_onFrom_0.2.2.2.2.2.2.2.2.2.1
theorem dX6_onFrom_14 : decode cX6_onFrom 14 = .ok (.iload_n 2, 1) := oq_28 bdX6_onFrom_0.2.2.2.2.2.2.2.2.2.2.1
theorem dX6_onFrom_15 : decode cX6_onFrom 15 = .ok (.iadd, 1) := oq_96 bdX6_onFrom_0.2.2.2.2.2.2.2.2.2.2.2
theorem bdX6_onFrom_16 : (pre_b (List.drop 16 cX6_onFrom.data.toList) [172]) = true := by decide +kernel
theorem dX6_onFrom_16 : decode cX6_onFrom 16 = .ok (.ireturn, 1) := oq_172 bdX6_onFrom_16
theorem bdX0_flapsOnTo_0 : (pre_b (List.drop 0 cX0_flapsOnTo.data.toList) [42]) = true ∧ (pre_b (List.drop 1 cX0_flapsOnTo.data.toList) [180, 0, 27] && Nat.beq (0 * 256 + 27) 27) = true ∧ (pre_b (List.drop 4 cX0_flapsOnTo.data.toList) [27]) = true ∧ (pre_b (List.drop 5 cX0_flapsOnTo.data.toList) [46]) = true ∧ (pre_b (List.drop 6 cX0_flapsOnTo.data.toList) [28]) = true ∧ (pre_b (List.drop 7 cX0_flapsOnTo.data.toList) [42]) = true ∧ (pre_b (List.drop 8 cX0_flapsOnTo.data.toList) [27]) = true ∧ (pre_b (List.drop 9 cX0_flapsOnTo.data.toList) [182, 0, 105] && Nat.beq (0 * 256 + 105) 105) = true ∧ (pre_b (List.drop 12 cX0_flapsOnTo.data.toList) [184, 0, 154] && Nat.beq (0 * 256 + 154) 154) = true ∧ (pre_b (List.drop 15 cX0_flapsOnTo.data.toList) [172]) = true := by decide +kernel
theorem dX0_flapsOnTo_0 : decode cX0_flapsOnTo 0 = .ok (.aload_n 0, 1) := oq_42 bdX0_flapsOnTo_0.1
theorem dX0_flapsOnTo_1 : decode cX0_flapsOnTo 1 = .ok (.getfield 27, 3) := oq_180 bdX0_flapsOnTo_0.2.1
theorem dX0_flapsOnTo_4 : decode cX0_flapsOnTo 4 = .ok (.iload_n 1, 1) := oq_27 bdX0_flapsOnTo_0.2.2.1
theorem dX0_flapsOnTo_5 : decode cX0_flapsOnTo 5 = .ok (.iaload, 1) := oq_46 bdX0_flapsOnTo_0.2.2.2.1
theorem dX0_flapsOnTo_6 : decode cX0_flapsOnTo 6 = .ok (.iload_n 2, 1) := oq_28 bdX0_flapsOnTo_0.2.2.2.2.1
theorem dX0_flapsOnTo_7 : decode cX0_flapsOnTo 7 = .ok (.aload_n 0, 1) := oq_42 bdX0_flapsOnTo_0.2.2.2.2.2.1
theorem dX0_flapsOnTo_8 : decode cX0_flapsOnTo 8 = .ok (.iload_n 1, 1) := oq_27 bdX0_flapsOnTo_0.2.2.2.2.2.2.1
theorem dX0_flapsOnTo_9 : decode cX0_flapsOnTo 9 = .ok (.invokevirtual 105, 3) := oq_182 bdX0_flapsOnTo_0.2.2.2.2.2.2.2.1
theorem dX0_flapsOnTo_12 : decode cX0_flapsOnTo 12 = .ok (.invokestatic 154, 3) := oq_184 bdX0_flapsOnTo_0.2.2.2.2.2.2.2.2.1
theorem dX0_flapsOnTo_15 : decode cX0_flapsOnTo 15 = .ok (.ireturn, 1) := oq_172 bdX0_flapsOnTo_0.2.2.2.2.2.2.2.2.2
theorem bdX0_leftOf_0 : (pre_b (List.drop 0 cX0_leftOf.data.toList) [42]) = true ∧ (pre_b (List.drop 1 cX0_leftOf.data.toList) [180, 0, 30] && Nat.beq (0 * 256 + 30) 30) = true ∧ (pre_b (List.drop 4 cX0_leftOf.data.toList) [27]) = true ∧ (pre_b (List.drop 5 cX0_leftOf.data.toList) [46]) = true ∧ (pre_b (List.drop 6 cX0_leftOf.data.toList) [42]) = true ∧ (pre_b (List.drop 7 cX0_leftOf.data.toList) [180, 0, 27] && Nat.beq (0 * 256 + 27) 27) = true ∧ (pre_b (List.drop 10 cX0_leftOf.data.toList) [27]) = true ∧ (pre_b (List.drop 11 cX0_leftOf.data.toList) [46]) = true ∧ (pre_b (List.drop 12 cX0_leftOf.data.toList) [100]) = true ∧ (pre_b (List.drop 13 cX0_leftOf.data.toList) [61]) = true ∧ (pre_b (List.drop 14 cX0_leftOf.data.toList) [42]) = true ∧ (pre_b (List.drop 15 cX0_leftOf.data.toList) [180, 0, 21] && Nat.beq (0 * 256 + 21) 21) = true := by decide +kernel
theorem dX0_leftOf_0 : decode cX0_leftOf 0 = .ok (.aload_n 0, 1) := oq_42 bdX0_leftOf_0.1
theorem dX0_leftOf_1 : decode cX0_leftOf 1 = .ok (.getfield 30, 3) := oq_180 bdX0_leftOf_0.2.1
theorem dX0_leftOf_4 : decode cX0_leftOf 4 = .ok (.iload_n 1, 1) := oq_27 bdX0_leftOf_0.2.2.1
theorem dX0_leftOf_5 : decode cX0_leftOf 5 = .ok (.iaload, 1) := oq_46 bdX0_leftOf_0.2.2.2.1
theorem dX0_leftOf_6 : decode cX0_leftOf 6 = .ok (.aload_n 0, 1) := oq_42 bdX0_leftOf_0.2.2.2.2.1
theorem dX0_leftOf_7 : decode cX0_leftOf 7 = .ok (.getfield 27, 3) := oq_180 bdX0_leftOf_0.2.2.2.2.2.1
theorem dX0_leftOf_10 : decode cX0_leftOf 10 = .ok (.iload_n 1, 1) := oq_27 bdX0_leftOf_0.2.2.2.2.2.2.1
theorem dX0_leftOf_11 : decode cX0_leftOf 11 = .ok (.iaload, 1) := oq_46 bdX0_leftOf_0.2.2.2.2.2.2.2.1
theorem dX0_leftOf_12 : decode cX0_leftOf 12 = .ok (.isub, 1) := oq_100 bdX0_leftOf_0.2.2.2.2.2.2.2.2.1
theorem dX0_leftOf_13 : decode cX0_leftOf 13 = .ok (.istore_n 2, 1) := oq_61 bdX0_leftOf_0.2.2.2.2.2.2.2.2.2.1
theorem dX0_leftOf_14 : decode cX0_leftOf 14 = .ok (.aload_n 0, 1) := oq_42 bdX0_leftOf_0.2.2.2.2.2.2.2.2.2.2.1
theorem dX0_leftOf_15 : decode cX0_leftOf 15 = .ok (.getfield 21, 3) := oq_180 bdX0_leftOf_0.2.2.2.2.2.2.2.2.2.2.2
theorem bdX0_leftOf_18 : (pre_b (List.drop 18 cX0_leftOf.data.toList) [27]) = true ∧ (pre_b (List.drop 19 cX0_leftOf.data.toList) [46]) = true ∧ (pre_b (List.drop 20 cX0_leftOf.data.toList) [62]) = true ∧ (pre_b (List.drop 21 cX0_leftOf.data.toList) [28]) = true ∧ (pre_b (List.drop 22 cX0_leftOf.data.toList) [156, 0, 26] && decide (Reader.signed 16 (0 * 256 + 26) = 26)) = true ∧ (pre_b (List.drop 25 cX0_leftOf.data.toList) [29]) = true ∧ (pre_b (List.drop 26 cX0_leftOf.data.toList) [155, 0, 22] && decide (Reader.signed 16 (0 * 256 + 22) = 22)) = true ∧ (pre_b (List.drop 29 cX0_leftOf.data.toList) [29]) = true ∧ (pre_b (List.drop 30 cX0_leftOf.data.toList) [42]) = true ∧ (pre_b (List.drop 31 cX0_leftOf.data.toList) [180, 0, 59] && Nat.beq (0 * 256 + 59) 59) = true ∧ (pre_b (List.drop 34 cX0_leftOf.data.toList) [162, 0, 14] && decide (Reader.signed 16 (0 * 256 + 14) = 14)) = true ∧ (pre_b (List.drop 37 cX0_leftOf.data.toList) [28]) = true := by decide +kernel
theorem dX0_leftOf_18 : decode cX0_leftOf 18 = .ok (.iload_n 1, 1) := oq_27 bdX0_leftOf_18.1
theorem dX0_leftOf_19 : decode cX0_leftOf 19 = .ok (.iaload, 1) := oq_46 bdX0_leftOf_18.2.1
theorem dX0_leftOf_20 : decode cX0_leftOf 20 = .ok (.istore_n 3, 1) := oq_62 bdX0_leftOf_18.2.2.1
theorem dX0_leftOf_21 : decode cX0_leftOf 21 = .ok (.iload_n 2, 1) := oq_28 bdX0_leftOf_18.2.2.2.1
theorem dX0_leftOf_22 : decode cX0_leftOf 22 = .ok (.ifCond .ge 26, 3) := oq_156 bdX0_leftOf_18.2.2.2.2.1
theorem dX0_leftOf_25 : decode cX0_leftOf 25 = .ok (.iload_n 3, 1) := oq_29 bdX0_leftOf_18.2.2.2.2.2.1
theorem dX0_leftOf_26 : decode cX0_leftOf 26 = .ok (.ifCond .lt 22, 3) := oq_155 bdX0_leftOf_18.2.2.2.2.2.2.1
theorem dX0_leftOf_29 : decode cX0_leftOf 29 = .ok (.iload_n 3, 1) := oq_29 bdX0_leftOf_18.2.2.2.2.2.2.2.1
theorem dX0_leftOf_30 : decode cX0_leftOf 30 = .ok (.aload_n 0, 1) := oq_42 bdX0_leftOf_18.2.2.2.2.2.2.2.2.1
theorem dX0_leftOf_31 : decode cX0_leftOf 31 = .ok (.getfield 59, 3) := oq_180 bdX0_leftOf_18.2.2.2.2.2.2.2.2.2.1
theorem dX0_leftOf_34 : decode cX0_leftOf 34 = .ok (.if_icmp .ge 14, 3) := oq_162 bdX0_leftOf_18.2.2.2.2.2.2.2.2.2.2.1
theorem dX0_leftOf_37 : decode cX0_leftOf 37 = .ok (.iload_n 2, 1) := oq_28 bdX0_leftOf_18.2.2.2.2.2.2.2.2.2.2.2
theorem bdX0_leftOf_38 : (pre_b (List.drop 38 cX0_leftOf.data.toList) [42]) = true ∧ (pre_b (List.drop 39 cX0_leftOf.data.toList) [180, 0, 15] && Nat.beq (0 * 256 + 15) 15) = true ∧ (pre_b (List.drop 42 cX0_leftOf.data.toList) [29]) = true ∧ (pre_b (List.drop 43 cX0_leftOf.data.toList) [46]) = true ∧ (pre_b (List.drop 44 cX0_leftOf.data.toList) [96]) = true ∧ (pre_b (List.drop 45 cX0_leftOf.data.toList) [167, 0, 4] && decide (Reader.signed 16 (0 * 256 + 4) = 4)) = true ∧ (pre_b (List.drop 48 cX0_leftOf.data.toList) [28]) = true ∧ (pre_b (List.drop 49 cX0_leftOf.data.toList) [172]) = true := by decide +kernel
theorem dX0_leftOf_38 : decode cX0_leftOf 38 = .ok (.aload_n 0, 1) := oq_42 bdX0_leftOf_38.1
theorem dX0_leftOf_39 : decode cX0_leftOf 39 = .ok (.getfield 15, 3) := oq_180 bdX0_leftOf_38.2.1
theorem dX0_leftOf_42 : decode cX0_leftOf 42 = .ok (.iload_n 3, 1) := oq_29 bdX0_leftOf_38.2.2.1
theorem dX0_leftOf_43 : decode cX0_leftOf 43 = .ok (.iaload, 1) := oq_46 bdX0_leftOf_38.2.2.2.1
theorem dX0_leftOf_44 : decode cX0_leftOf 44 = .ok (.iadd, 1) := oq_96 bdX0_leftOf_38.2.2.2.2.1
theorem dX0_leftOf_45 : decode cX0_leftOf 45 = .ok (.goto 4, 3) := oq_167 bdX0_leftOf_38.2.2.2.2.2.1
theorem dX0_leftOf_48 : decode cX0_leftOf 48 = .ok (.iload_n 2, 1) := oq_28 bdX0_leftOf_38.2.2.2.2.2.2.1
theorem dX0_leftOf_49 : decode cX0_leftOf 49 = .ok (.ireturn, 1) := oq_172 bdX0_leftOf_38.2.2.2.2.2.2.2
theorem bdX0_flapFor_0 : (pre_b (List.drop 0 cX0_flapFor.data.toList) [28]) = true ∧ (pre_b (List.drop 1 cX0_flapFor.data.toList) [155, 0, 25] && decide (Reader.signed 16 (0 * 256 + 25) = 25)) = true ∧ (pre_b (List.drop 4 cX0_flapFor.data.toList) [28]) = true ∧ (pre_b (List.drop 5 cX0_flapFor.data.toList) [21, 5] && Nat.beq (5) 5) = true ∧ (pre_b (List.drop 7 cX0_flapFor.data.toList) [162, 0, 19] && decide (Reader.signed 16 (0 * 256 + 19) = 19)) = true ∧ (pre_b (List.drop 10 cX0_flapFor.data.toList) [42]) = true ∧ (pre_b (List.drop 11 cX0_flapFor.data.toList) [27]) = true ∧ (pre_b (List.drop 12 cX0_flapFor.data.toList) [45]) = true ∧ (pre_b (List.drop 13 cX0_flapFor.data.toList) [21, 4] && Nat.beq (4) 4) = true ∧ (pre_b (List.drop 15 cX0_flapFor.data.toList) [28]) = true ∧ (pre_b (List.drop 16 cX0_flapFor.data.toList) [96]) = true ∧ (pre_b (List.drop 17 cX0_flapFor.data.toList) [182, 0, 76] && Nat.beq (0 * 256 + 76) 76) = true := by decide +kernel
theorem dX0_flapFor_0 : decode cX0_flapFor 0 = .ok (.iload_n 2, 1) := oq_28 bdX0_flapFor_0.1
theorem dX0_flapFor_1 : decode cX0_flapFor 1 = .ok (.ifCond .lt 25, 3) := oq_155 bdX0_flapFor_0.2.1
theorem dX0_flapFor_4 : decode cX0_flapFor 4 = .ok (.iload_n 2, 1) := oq_28 bdX0_flapFor_0.2.2.1
theorem dX0_flapFor_5 : decode cX0_flapFor 5 = .ok (.iload 5, 2) := oq_21 bdX0_flapFor_0.2.2.2.1
theorem dX0_flapFor_7 : decode cX0_flapFor 7 = .ok (.if_icmp .ge 19, 3) := oq_162 bdX0_flapFor_0.2.2.2.2.1
theorem dX0_flapFor_10 : decode cX0_flapFor 10 = .ok (.aload_n 0, 1) := oq_42 bdX0_flapFor_0.2.2.2.2.2.1
theorem dX0_flapFor_11 : decode cX0_flapFor 11 = .ok (.iload_n 1, 1) := oq_27 bdX0_flapFor_0.2.2.2.2.2.2.1
theorem dX0_flapFor_12 : decode cX0_flapFor 12 = .ok (.aload_n 3, 1) := oq_45 bdX0_flapFor_0.2.2.2.2.2.2.2.1
theorem dX0_flapFor_13 : decode cX0_flapFor 13 = .ok (.iload 4, 2) := oq_21 bdX0_flapFor_0.2.2.2.2.2.2.2.2.1
theorem dX0_flapFor_15 : decode cX0_flapFor 15 = .ok (.iload_n 2, 1) := oq_28 bdX0_flapFor_0.2.2.2.2.2.2.2.2.2.1
theorem dX0_flapFor_16 : decode cX0_flapFor 16 = .ok (.iadd, 1) := oq_96 bdX0_flapFor_0.2.2.2.2.2.2.2.2.2.2.1
theorem dX0_flapFor_17 : decode cX0_flapFor 17 = .ok (.invokevirtual 76, 3) := oq_182 bdX0_flapFor_0.2.2.2.2.2.2.2.2.2.2.2
theorem bdX0_flapFor_20 : (pre_b (List.drop 20 cX0_flapFor.data.toList) [182, 0, 137] && Nat.beq (0 * 256 + 137) 137) = true ∧ (pre_b (List.drop 23 cX0_flapFor.data.toList) [167, 0, 4] && decide (Reader.signed 16 (0 * 256 + 4) = 4)) = true ∧ (pre_b (List.drop 26 cX0_flapFor.data.toList) [3]) = true ∧ (pre_b (List.drop 27 cX0_flapFor.data.toList) [172]) = true := by decide +kernel
theorem dX0_flapFor_20 : decode cX0_flapFor 20 = .ok (.invokevirtual 137, 3) := oq_182 bdX0_flapFor_20.1
theorem dX0_flapFor_23 : decode cX0_flapFor 23 = .ok (.goto 4, 3) := oq_167 bdX0_flapFor_20.2.1
theorem dX0_flapFor_26 : decode cX0_flapFor 26 = .ok (.iconst 0, 1) := oq_3 bdX0_flapFor_20.2.2.1
theorem dX0_flapFor_27 : decode cX0_flapFor 27 = .ok (.ireturn, 1) := oq_172 bdX0_flapFor_20.2.2.2
theorem bdX0_costOf_0 : (pre_b (List.drop 0 cX0_costOf.data.toList) [3]) = true ∧ (pre_b (List.drop 1 cX0_costOf.data.toList) [54, 6] && Nat.beq (6) 6) = true ∧ (pre_b (List.drop 3 cX0_costOf.data.toList) [3]) = true ∧ (pre_b (List.drop 4 cX0_costOf.data.toList) [54, 7] && Nat.beq (7) 7) = true ∧ (pre_b (List.drop 6 cX0_costOf.data.toList) [21, 7] && Nat.beq (7) 7) = true ∧ (pre_b (List.drop 8 cX0_costOf.data.toList) [42]) = true ∧ (pre_b (List.drop 9 cX0_costOf.data.toList) [180, 0, 53] && Nat.beq (0 * 256 + 53) 53) = true ∧ (pre_b (List.drop 12 cX0_costOf.data.toList) [162, 0, 60] && decide (Reader.signed 16 (0 * 256 + 60) = 60)) = true ∧ (pre_b (List.drop 15 cX0_costOf.data.toList) [27]) = true ∧ (pre_b (List.drop 16 cX0_costOf.data.toList) [42]) = true ∧ (pre_b (List.drop 17 cX0_costOf.data.toList) [180, 0, 53] && Nat.beq (0 * 256 + 53) 53) = true ∧ (pre_b (List.drop 20 cX0_costOf.data.toList) [104]) = true := by decide +kernel
theorem dX0_costOf_0 : decode cX0_costOf 0 = .ok (.iconst 0, 1) := oq_3 bdX0_costOf_0.1
theorem dX0_costOf_1 : decode cX0_costOf 1 = .ok (.istore 6, 2) := oq_54 bdX0_costOf_0.2.1
theorem dX0_costOf_3 : decode cX0_costOf 3 = .ok (.iconst 0, 1) := oq_3 bdX0_costOf_0.2.2.1
theorem dX0_costOf_4 : decode cX0_costOf 4 = .ok (.istore 7, 2) := oq_54 bdX0_costOf_0.2.2.2.1
theorem dX0_costOf_6 : decode cX0_costOf 6 = .ok (.iload 7, 2) := oq_21 bdX0_costOf_0.2.2.2.2.1
theorem dX0_costOf_8 : decode cX0_costOf 8 = .ok (.aload_n 0, 1) := oq_42 bdX0_costOf_0.2.2.2.2.2.1
theorem dX0_costOf_9 : decode cX0_costOf 9 = .ok (.getfield 53, 3) := oq_180 bdX0_costOf_0.2.2.2.2.2.2.1
theorem dX0_costOf_12 : decode cX0_costOf 12 = .ok (.if_icmp .ge 60, 3) := oq_162 bdX0_costOf_0.2.2.2.2.2.2.2.1
theorem dX0_costOf_15 : decode cX0_costOf 15 = .ok (.iload_n 1, 1) := oq_27 bdX0_costOf_0.2.2.2.2.2.2.2.2.1
theorem dX0_costOf_16 : decode cX0_costOf 16 = .ok (.aload_n 0, 1) := oq_42 bdX0_costOf_0.2.2.2.2.2.2.2.2.2.1
theorem dX0_costOf_17 : decode cX0_costOf 17 = .ok (.getfield 53, 3) := oq_180 bdX0_costOf_0.2.2.2.2.2.2.2.2.2.2.1
theorem dX0_costOf_20 : decode cX0_costOf 20 = .ok (.imul, 1) := oq_104 bdX0_costOf_0.2.2.2.2.2.2.2.2.2.2.2
theorem bdX0_costOf_21 : (pre_b (List.drop 21 cX0_costOf.data.toList) [21, 7] && Nat.beq (7) 7) = true ∧ (pre_b (List.drop 23 cX0_costOf.data.toList) [96]) = true ∧ (pre_b (List.drop 24 cX0_costOf.data.toList) [54, 8] && Nat.beq (8) 8) = true ∧ (pre_b (List.drop 26 cX0_costOf.data.toList) [42]) = true ∧ (pre_b (List.drop 27 cX0_costOf.data.toList) [21, 8] && Nat.beq (8) 8) = true ∧ (pre_b (List.drop 29 cX0_costOf.data.toList) [21, 7] && Nat.beq (7) 7) = true ∧ (pre_b (List.drop 31 cX0_costOf.data.toList) [28]) = true ∧ (pre_b (List.drop 32 cX0_costOf.data.toList) [100]) = true ∧ (pre_b (List.drop 33 cX0_costOf.data.toList) [45]) = true ∧ (pre_b (List.drop 34 cX0_costOf.data.toList) [21, 4] && Nat.beq (4) 4) = true ∧ (pre_b (List.drop 36 cX0_costOf.data.toList) [21, 5] && Nat.beq (5) 5) = true ∧ (pre_b (List.drop 38 cX0_costOf.data.toList) [182, 0, 157] && Nat.beq (0 * 256 + 157) 157) = true := by decide +kernel
theorem dX0_costOf_21 : decode cX0_costOf 21 = .ok (.iload 7, 2) := oq_21 bdX0_costOf_21.1
theorem dX0_costOf_23 : decode cX0_costOf 23 = .ok (.iadd, 1) := oq_96 bdX0_costOf_21.2.1
theorem dX0_costOf_24 : decode cX0_costOf 24 = .ok (.istore 8, 2) := oq_54 bdX0_costOf_21.2.2.1
theorem dX0_costOf_26 : decode cX0_costOf 26 = .ok (.aload_n 0, 1) := oq_42 bdX0_costOf_21.2.2.2.1
theorem dX0_costOf_27 : decode cX0_costOf 27 = .ok (.iload 8, 2) := oq_21 bdX0_costOf_21.2.2.2.2.1
theorem dX0_costOf_29 : decode cX0_costOf 29 = .ok (.iload 7, 2) := oq_21 bdX0_costOf_21.2.2.2.2.2.1
theorem dX0_costOf_31 : decode cX0_costOf 31 = .ok (.iload_n 2, 1) := oq_28 bdX0_costOf_21.2.2.2.2.2.2.1
theorem dX0_costOf_32 : decode cX0_costOf 32 = .ok (.isub, 1) := oq_100 bdX0_costOf_21.2.2.2.2.2.2.2.1
theorem dX0_costOf_33 : decode cX0_costOf 33 = .ok (.aload_n 3, 1) := oq_45 bdX0_costOf_21.2.2.2.2.2.2.2.2.1
theorem dX0_costOf_34 : decode cX0_costOf 34 = .ok (.iload 4, 2) := oq_21 bdX0_costOf_21.2.2.2.2.2.2.2.2.2.1
theorem dX0_costOf_36 : decode cX0_costOf 36 = .ok (.iload 5, 2) := oq_21 bdX0_costOf_21.2.2.2.2.2.2.2.2.2.2.1
theorem dX0_costOf_38 : decode cX0_costOf 38 = .ok (.invokevirtual 157, 3) := oq_182 bdX0_costOf_21.2.2.2.2.2.2.2.2.2.2.2
theorem bdX0_costOf_41 : (pre_b (List.drop 41 cX0_costOf.data.toList) [54, 9] && Nat.beq (9) 9) = true ∧ (pre_b (List.drop 43 cX0_costOf.data.toList) [21, 6] && Nat.beq (6) 6) = true ∧ (pre_b (List.drop 45 cX0_costOf.data.toList) [21, 9] && Nat.beq (9) 9) = true ∧ (pre_b (List.drop 47 cX0_costOf.data.toList) [2]) = true ∧ (pre_b (List.drop 48 cX0_costOf.data.toList) [160, 0, 7] && decide (Reader.signed 16 (0 * 256 + 7) = 7)) = true ∧ (pre_b (List.drop 51 cX0_costOf.data.toList) [3]) = true ∧ (pre_b (List.drop 52 cX0_costOf.data.toList) [167, 0, 11] && decide (Reader.signed 16 (0 * 256 + 11) = 11)) = true ∧ (pre_b (List.drop 55 cX0_costOf.data.toList) [42]) = true ∧ (pre_b (List.drop 56 cX0_costOf.data.toList) [21, 8] && Nat.beq (8) 8) = true ∧ (pre_b (List.drop 58 cX0_costOf.data.toList) [21, 9] && Nat.beq (9) 9) = true ∧ (pre_b (List.drop 60 cX0_costOf.data.toList) [182, 0, 161] && Nat.beq (0 * 256 + 161) 161) = true ∧ (pre_b (List.drop 63 cX0_costOf.data.toList) [96]) = true := by decide +kernel
theorem dX0_costOf_41 : decode cX0_costOf 41 = .ok (.istore 9, 2) := oq_54 bdX0_costOf_41.1
theorem dX0_costOf_43 : decode cX0_costOf 43 = .ok (.iload 6, 2) := oq_21 bdX0_costOf_41.2.1
theorem dX0_costOf_45 : decode cX0_costOf 45 = .ok (.iload 9, 2) := oq_21 bdX0_costOf_41.2.2.1
theorem dX0_costOf_47 : decode cX0_costOf 47 = .ok (.iconst (-1), 1) := oq_2 bdX0_costOf_41.2.2.2.1
theorem dX0_costOf_48 : decode cX0_costOf 48 = .ok (.if_icmp .ne 7, 3) := oq_160 bdX0_costOf_41.2.2.2.2.1
theorem dX0_costOf_51 : decode cX0_costOf 51 = .ok (.iconst 0, 1) := oq_3 bdX0_costOf_41.2.2.2.2.2.1
theorem dX0_costOf_52 : decode cX0_costOf 52 = .ok (.goto 11, 3) := oq_167 bdX0_costOf_41.2.2.2.2.2.2.1
theorem dX0_costOf_55 : decode cX0_costOf 55 = .ok (.aload_n 0, 1) := oq_42 bdX0_costOf_41.2.2.2.2.2.2.2.1
theorem dX0_costOf_56 : decode cX0_costOf 56 = .ok (.iload 8, 2) := oq_21 bdX0_costOf_41.2.2.2.2.2.2.2.2.1
theorem dX0_costOf_58 : decode cX0_costOf 58 = .ok (.iload 9, 2) := oq_21 bdX0_costOf_41.2.2.2.2.2.2.2.2.2.1
theorem dX0_costOf_60 : decode cX0_costOf 60 = .ok (.invokevirtual 161, 3) := oq_182 bdX0_costOf_41.2.2.2.2.2.2.2.2.2.2.1
theorem dX0_costOf_63 : decode cX0_costOf 63 = .ok (.iadd, 1) := oq_96 bdX0_costOf_41.2.2.2.2.2.2.2.2.2.2.2
theorem bdX0_costOf_64 : (pre_b (List.drop 64 cX0_costOf.data.toList) [54, 6] && Nat.beq (6) 6) = true ∧ (pre_b (List.drop 66 cX0_costOf.data.toList) [132, 7, 1] && Nat.beq (7) 7 && decide (Reader.signed 8 (1) = 1)) = true ∧ (pre_b (List.drop 69 cX0_costOf.data.toList) [167, 255, 193] && decide (Reader.signed 16 (255 * 256 + 193) = (-63))) = true ∧ (pre_b (List.drop 72 cX0_costOf.data.toList) [21, 6] && Nat.beq (6) 6) = true ∧ (pre_b (List.drop 74 cX0_costOf.data.toList) [172]) = true := by decide +kernel
theorem dX0_costOf_64 : decode cX0_costOf 64 = .ok (.istore 6, 2) := oq_54 bdX0_costOf_64.1
theorem dX0_costOf_66 : decode cX0_costOf 66 = .ok (.iinc 7 1, 3) := oq_132 bdX0_costOf_64.2.1
theorem dX0_costOf_69 : decode cX0_costOf 69 = .ok (.goto (-63), 3) := oq_167 bdX0_costOf_64.2.2.1
theorem dX0_costOf_72 : decode cX0_costOf 72 = .ok (.iload 6, 2) := oq_21 bdX0_costOf_64.2.2.2.1
theorem dX0_costOf_74 : decode cX0_costOf 74 = .ok (.ireturn, 1) := oq_172 bdX0_costOf_64.2.2.2.2
theorem bdX0_missesOf_0 : (pre_b (List.drop 0 cX0_missesOf.data.toList) [3]) = true ∧ (pre_b (List.drop 1 cX0_missesOf.data.toList) [54, 6] && Nat.beq (6) 6) = true ∧ (pre_b (List.drop 3 cX0_missesOf.data.toList) [3]) = true ∧ (pre_b (List.drop 4 cX0_missesOf.data.toList) [54, 7] && Nat.beq (7) 7) = true ∧ (pre_b (List.drop 6 cX0_missesOf.data.toList) [21, 7] && Nat.beq (7) 7) = true ∧ (pre_b (List.drop 8 cX0_missesOf.data.toList) [42]) = true ∧ (pre_b (List.drop 9 cX0_missesOf.data.toList) [180, 0, 53] && Nat.beq (0 * 256 + 53) 53) = true ∧ (pre_b (List.drop 12 cX0_missesOf.data.toList) [162, 0, 38] && decide (Reader.signed 16 (0 * 256 + 38) = 38)) = true ∧ (pre_b (List.drop 15 cX0_missesOf.data.toList) [42]) = true ∧ (pre_b (List.drop 16 cX0_missesOf.data.toList) [27]) = true ∧ (pre_b (List.drop 17 cX0_missesOf.data.toList) [42]) = true ∧ (pre_b (List.drop 18 cX0_missesOf.data.toList) [180, 0, 53] && Nat.beq (0 * 256 + 53) 53) = true := by decide +kernel
theorem dX0_missesOf_0 : decode cX0_missesOf 0 = .ok (.iconst 0, 1) := oq_3 bdX0_missesOf_0.1
theorem dX0_missesOf_1 : decode cX0_missesOf 1 = .ok (.istore 6, 2) := oq_54 bdX0_missesOf_0.2.1
theorem dX0_missesOf_3 : decode cX0_missesOf 3 = .ok (.iconst 0, 1) := oq_3 bdX0_missesOf_0.2.2.1
theorem dX0_missesOf_4 : decode cX0_missesOf 4 = .ok (.istore 7, 2) := oq_54 bdX0_missesOf_0.2.2.2.1
theorem dX0_missesOf_6 : decode cX0_missesOf 6 = .ok (.iload 7, 2) := oq_21 bdX0_missesOf_0.2.2.2.2.1
theorem dX0_missesOf_8 : decode cX0_missesOf 8 = .ok (.aload_n 0, 1) := oq_42 bdX0_missesOf_0.2.2.2.2.2.1
theorem dX0_missesOf_9 : decode cX0_missesOf 9 = .ok (.getfield 53, 3) := oq_180 bdX0_missesOf_0.2.2.2.2.2.2.1
theorem dX0_missesOf_12 : decode cX0_missesOf 12 = .ok (.if_icmp .ge 38, 3) := oq_162 bdX0_missesOf_0.2.2.2.2.2.2.2.1
theorem dX0_missesOf_15 : decode cX0_missesOf 15 = .ok (.aload_n 0, 1) := oq_42 bdX0_missesOf_0.2.2.2.2.2.2.2.2.1
theorem dX0_missesOf_16 : decode cX0_missesOf 16 = .ok (.iload_n 1, 1) := oq_27 bdX0_missesOf_0.2.2.2.2.2.2.2.2.2.1
theorem dX0_missesOf_17 : decode cX0_missesOf 17 = .ok (.aload_n 0, 1) := oq_42 bdX0_missesOf_0.2.2.2.2.2.2.2.2.2.2.1
theorem dX0_missesOf_18 : decode cX0_missesOf 18 = .ok (.getfield 53, 3) := oq_180 bdX0_missesOf_0.2.2.2.2.2.2.2.2.2.2.2
theorem bdX0_missesOf_21 : (pre_b (List.drop 21 cX0_missesOf.data.toList) [104]) = true ∧ (pre_b (List.drop 22 cX0_missesOf.data.toList) [21, 7] && Nat.beq (7) 7) = true ∧ (pre_b (List.drop 24 cX0_missesOf.data.toList) [96]) = true ∧ (pre_b (List.drop 25 cX0_missesOf.data.toList) [21, 7] && Nat.beq (7) 7) = true ∧ (pre_b (List.drop 27 cX0_missesOf.data.toList) [28]) = true ∧ (pre_b (List.drop 28 cX0_missesOf.data.toList) [100]) = true ∧ (pre_b (List.drop 29 cX0_missesOf.data.toList) [45]) = true ∧ (pre_b (List.drop 30 cX0_missesOf.data.toList) [21, 4] && Nat.beq (4) 4) = true ∧ (pre_b (List.drop 32 cX0_missesOf.data.toList) [21, 5] && Nat.beq (5) 5) = true ∧ (pre_b (List.drop 34 cX0_missesOf.data.toList) [182, 0, 157] && Nat.beq (0 * 256 + 157) 157) = true ∧ (pre_b (List.drop 37 cX0_missesOf.data.toList) [2]) = true ∧ (pre_b (List.drop 38 cX0_missesOf.data.toList) [160, 0, 6] && decide (Reader.signed 16 (0 * 256 + 6) = 6)) = true := by decide +kernel
theorem dX0_missesOf_21 : decode cX0_missesOf 21 = .ok (.imul, 1) := oq_104 bdX0_missesOf_21.1
theorem dX0_missesOf_22 : decode cX0_missesOf 22 = .ok (.iload 7, 2) := oq_21 bdX0_missesOf_21.2.1
theorem dX0_missesOf_24 : decode cX0_missesOf 24 = .ok (.iadd, 1) := oq_96 bdX0_missesOf_21.2.2.1
theorem dX0_missesOf_25 : decode cX0_missesOf 25 = .ok (.iload 7, 2) := oq_21 bdX0_missesOf_21.2.2.2.1
theorem dX0_missesOf_27 : decode cX0_missesOf 27 = .ok (.iload_n 2, 1) := oq_28 bdX0_missesOf_21.2.2.2.2.1
theorem dX0_missesOf_28 : decode cX0_missesOf 28 = .ok (.isub, 1) := oq_100 bdX0_missesOf_21.2.2.2.2.2.1
theorem dX0_missesOf_29 : decode cX0_missesOf 29 = .ok (.aload_n 3, 1) := oq_45 bdX0_missesOf_21.2.2.2.2.2.2.1
theorem dX0_missesOf_30 : decode cX0_missesOf 30 = .ok (.iload 4, 2) := oq_21 bdX0_missesOf_21.2.2.2.2.2.2.2.1
theorem dX0_missesOf_32 : decode cX0_missesOf 32 = .ok (.iload 5, 2) := oq_21 bdX0_missesOf_21.2.2.2.2.2.2.2.2.1
theorem dX0_missesOf_34 : decode cX0_missesOf 34 = .ok (.invokevirtual 157, 3) := oq_182 bdX0_missesOf_21.2.2.2.2.2.2.2.2.2.1
theorem dX0_missesOf_37 : decode cX0_missesOf 37 = .ok (.iconst (-1), 1) := oq_2 bdX0_missesOf_21.2.2.2.2.2.2.2.2.2.2.1
theorem dX0_missesOf_38 : decode cX0_missesOf 38 = .ok (.if_icmp .ne 6, 3) := oq_160 bdX0_missesOf_21.2.2.2.2.2.2.2.2.2.2.2
theorem bdX0_missesOf_41 : (pre_b (List.drop 41 cX0_missesOf.data.toList) [132, 6, 1] && Nat.beq (6) 6 && decide (Reader.signed 8 (1) = 1)) = true ∧ (pre_b (List.drop 44 cX0_missesOf.data.toList) [132, 7, 1] && Nat.beq (7) 7 && decide (Reader.signed 8 (1) = 1)) = true ∧ (pre_b (List.drop 47 cX0_missesOf.data.toList) [167, 255, 215] && decide (Reader.signed 16 (255 * 256 + 215) = (-41))) = true ∧ (pre_b (List.drop 50 cX0_missesOf.data.toList) [21, 6] && Nat.beq (6) 6) = true ∧ (pre_b (List.drop 52 cX0_missesOf.data.toList) [172]) = true := by decide +kernel
theorem dX0_missesOf_41 : decode cX0_missesOf 41 = .ok (.iinc 6 1, 3) := oq_132 bdX0_missesOf_41.1
theorem dX0_missesOf_44 : decode cX0_missesOf 44 = .ok (.iinc 7 1, 3) := oq_132 bdX0_missesOf_41.2.1
theorem dX0_missesOf_47 : decode cX0_missesOf 47 = .ok (.goto (-41), 3) := oq_167 bdX0_missesOf_41.2.2.1
theorem dX0_missesOf_50 : decode cX0_missesOf 50 = .ok (.iload 6, 2) := oq_21 bdX0_missesOf_41.2.2.2.1
theorem dX0_missesOf_52 : decode cX0_missesOf 52 = .ok (.ireturn, 1) := oq_172 bdX0_missesOf_41.2.2.2.2
theorem bdX0_wantFlap_0 : (pre_b (List.drop 0 cX0_wantFlap.data.toList) [28]) = true ∧ (pre_b (List.drop 1 cX0_wantFlap.data.toList) [2]) = true ∧ (pre_b (List.drop 2 cX0_wantFlap.data.toList) [160, 0, 5] && decide (Reader.signed 16 (0 * 256 + 5) = 5)) = true ∧ (pre_b (List.drop 5 cX0_wantFlap.data.toList) [4]) = true ∧ (pre_b (List.drop 6 cX0_wantFlap.data.toList) [172]) = true ∧ (pre_b (List.drop 7 cX0_wantFlap.data.toList) [42]) = true ∧ (pre_b (List.drop 8 cX0_wantFlap.data.toList) [180, 0, 30] && Nat.beq (0 * 256 + 30) 30) = true ∧ (pre_b (List.drop 11 cX0_wantFlap.data.toList) [27]) = true ∧ (pre_b (List.drop 12 cX0_wantFlap.data.toList) [28]) = true ∧ (pre_b (List.drop 13 cX0_wantFlap.data.toList) [79]) = true ∧ (pre_b (List.drop 14 cX0_wantFlap.data.toList) [42]) = true ∧ (pre_b (List.drop 15 cX0_wantFlap.data.toList) [180, 0, 27] && Nat.beq (0 * 256 + 27) 27) = true := by decide +kernel
theorem dX0_wantFlap_0 : decode cX0_wantFlap 0 = .ok (.iload_n 2, 1) := oq_28 bdX0_wantFlap_0.1
theorem dX0_wantFlap_1 : decode cX0_wantFlap 1 = .ok (.iconst (-1), 1) := oq_2 bdX0_wantFlap_0.2.1
theorem dX0_wantFlap_2 : decode cX0_wantFlap 2 = .ok (.if_icmp .ne 5, 3) := oq_160 bdX0_wantFlap_0.2.2.1
theorem dX0_wantFlap_5 : decode cX0_wantFlap 5 = .ok (.iconst 1, 1) := oq_4 bdX0_wantFlap_0.2.2.2.1
theorem dX0_wantFlap_6 : decode cX0_wantFlap 6 = .ok (.ireturn, 1) := oq_172 bdX0_wantFlap_0.2.2.2.2.1
theorem dX0_wantFlap_7 : decode cX0_wantFlap 7 = .ok (.aload_n 0, 1) := oq_42 bdX0_wantFlap_0.2.2.2.2.2.1
theorem dX0_wantFlap_8 : decode cX0_wantFlap 8 = .ok (.getfield 30, 3) := oq_180 bdX0_wantFlap_0.2.2.2.2.2.2.1
theorem dX0_wantFlap_11 : decode cX0_wantFlap 11 = .ok (.iload_n 1, 1) := oq_27 bdX0_wantFlap_0.2.2.2.2.2.2.2.1
theorem dX0_wantFlap_12 : decode cX0_wantFlap 12 = .ok (.iload_n 2, 1) := oq_28 bdX0_wantFlap_0.2.2.2.2.2.2.2.2.1
theorem dX0_wantFlap_13 : decode cX0_wantFlap 13 = .ok (.iastore, 1) := oq_79 bdX0_wantFlap_0.2.2.2.2.2.2.2.2.2.1
theorem dX0_wantFlap_14 : decode cX0_wantFlap 14 = .ok (.aload_n 0, 1) := oq_42 bdX0_wantFlap_0.2.2.2.2.2.2.2.2.2.2.1
theorem dX0_wantFlap_15 : decode cX0_wantFlap 15 = .ok (.getfield 27, 3) := oq_180 bdX0_wantFlap_0.2.2.2.2.2.2.2.2.2.2.2
theorem bdX0_wantFlap_18 : (pre_b (List.drop 18 cX0_wantFlap.data.toList) [27]) = true ∧ (pre_b (List.drop 19 cX0_wantFlap.data.toList) [46]) = true ∧ (pre_b (List.drop 20 cX0_wantFlap.data.toList) [62]) = true ∧ (pre_b (List.drop 21 cX0_wantFlap.data.toList) [42]) = true ∧ (pre_b (List.drop 22 cX0_wantFlap.data.toList) [42]) = true ∧ (pre_b (List.drop 23 cX0_wantFlap.data.toList) [180, 0, 21] && Nat.beq (0 * 256 + 21) 21) = true ∧ (pre_b (List.drop 26 cX0_wantFlap.data.toList) [27]) = true ∧ (pre_b (List.drop 27 cX0_wantFlap.data.toList) [46]) = true ∧ (pre_b (List.drop 28 cX0_wantFlap.data.toList) [182, 0, 171] && Nat.beq (0 * 256 + 171) 171) = true ∧ (pre_b (List.drop 31 cX0_wantFlap.data.toList) [29]) = true ∧ (pre_b (List.drop 32 cX0_wantFlap.data.toList) [42]) = true ∧ (pre_b (List.drop 33 cX0_wantFlap.data.toList) [27]) = true := by decide +kernel
theorem dX0_wantFlap_18 : decode cX0_wantFlap 18 = .ok (.iload_n 1, 1) := oq_27 bdX0_wantFlap_18.1
theorem dX0_wantFlap_19 : decode cX0_wantFlap 19 = .ok (.iaload, 1) := oq_46 bdX0_wantFlap_18.2.1
theorem dX0_wantFlap_20 : decode cX0_wantFlap 20 = .ok (.istore_n 3, 1) := oq_62 bdX0_wantFlap_18.2.2.1
theorem dX0_wantFlap_21 : decode cX0_wantFlap 21 = .ok (.aload_n 0, 1) := oq_42 bdX0_wantFlap_18.2.2.2.1
theorem dX0_wantFlap_22 : decode cX0_wantFlap 22 = .ok (.aload_n 0, 1) := oq_42 bdX0_wantFlap_18.2.2.2.2.1
theorem dX0_wantFlap_23 : decode cX0_wantFlap 23 = .ok (.getfield 21, 3) := oq_180 bdX0_wantFlap_18.2.2.2.2.2.1
theorem dX0_wantFlap_26 : decode cX0_wantFlap 26 = .ok (.iload_n 1, 1) := oq_27 bdX0_wantFlap_18.2.2.2.2.2.2.1
theorem dX0_wantFlap_27 : decode cX0_wantFlap 27 = .ok (.iaload, 1) := oq_46 bdX0_wantFlap_18.2.2.2.2.2.2.2.1
theorem dX0_wantFlap_28 : decode cX0_wantFlap 28 = .ok (.invokevirtual 171, 3) := oq_182 bdX0_wantFlap_18.2.2.2.2.2.2.2.2.1
theorem dX0_wantFlap_31 : decode cX0_wantFlap 31 = .ok (.iload_n 3, 1) := oq_29 bdX0_wantFlap_18.2.2.2.2.2.2.2.2.2.1
theorem dX0_wantFlap_32 : decode cX0_wantFlap 32 = .ok (.aload_n 0, 1) := oq_42 bdX0_wantFlap_18.2.2.2.2.2.2.2.2.2.2.1
theorem dX0_wantFlap_33 : decode cX0_wantFlap 33 = .ok (.iload_n 1, 1) := oq_27 bdX0_wantFlap_18.2.2.2.2.2.2.2.2.2.2.2
theorem bdX0_wantFlap_34 : (pre_b (List.drop 34 cX0_wantFlap.data.toList) [182, 0, 105] && Nat.beq (0 * 256 + 105) 105) = true ∧ (pre_b (List.drop 37 cX0_wantFlap.data.toList) [104]) = true ∧ (pre_b (List.drop 38 cX0_wantFlap.data.toList) [96]) = true ∧ (pre_b (List.drop 39 cX0_wantFlap.data.toList) [28]) = true ∧ (pre_b (List.drop 40 cX0_wantFlap.data.toList) [96]) = true ∧ (pre_b (List.drop 41 cX0_wantFlap.data.toList) [54, 4] && Nat.beq (4) 4) = true ∧ (pre_b (List.drop 43 cX0_wantFlap.data.toList) [28]) = true ∧ (pre_b (List.drop 44 cX0_wantFlap.data.toList) [29]) = true ∧ (pre_b (List.drop 45 cX0_wantFlap.data.toList) [159, 0, 29] && decide (Reader.signed 16 (0 * 256 + 29) = 29)) = true ∧ (pre_b (List.drop 48 cX0_wantFlap.data.toList) [21, 4] && Nat.beq (4) 4) = true ∧ (pre_b (List.drop 50 cX0_wantFlap.data.toList) [155, 0, 24] && decide (Reader.signed 16 (0 * 256 + 24) = 24)) = true ∧ (pre_b (List.drop 53 cX0_wantFlap.data.toList) [21, 4] && Nat.beq (4) 4) = true := by decide +kernel
theorem dX0_wantFlap_34 : decode cX0_wantFlap 34 = .ok (.invokevirtual 105, 3) := oq_182 bdX0_wantFlap_34.1
theorem dX0_wantFlap_37 : decode cX0_wantFlap 37 = .ok (.imul, 1) := oq_104 bdX0_wantFlap_34.2.1
theorem dX0_wantFlap_38 : decode cX0_wantFlap 38 = .ok (.iadd, 1) := oq_96 bdX0_wantFlap_34.2.2.1
theorem dX0_wantFlap_39 : decode cX0_wantFlap 39 = .ok (.iload_n 2, 1) := oq_28 bdX0_wantFlap_34.2.2.2.1
theorem dX0_wantFlap_40 : decode cX0_wantFlap 40 = .ok (.iadd, 1) := oq_96 bdX0_wantFlap_34.2.2.2.2.1
theorem dX0_wantFlap_41 : decode cX0_wantFlap 41 = .ok (.istore 4, 2) := oq_54 bdX0_wantFlap_34.2.2.2.2.2.1
theorem dX0_wantFlap_43 : decode cX0_wantFlap 43 = .ok (.iload_n 2, 1) := oq_28 bdX0_wantFlap_34.2.2.2.2.2.2.1
theorem dX0_wantFlap_44 : decode cX0_wantFlap 44 = .ok (.iload_n 3, 1) := oq_29 bdX0_wantFlap_34.2.2.2.2.2.2.2.1
theorem dX0_wantFlap_45 : decode cX0_wantFlap 45 = .ok (.if_icmp .eq 29, 3) := oq_159 bdX0_wantFlap_34.2.2.2.2.2.2.2.2.1
theorem dX0_wantFlap_48 : decode cX0_wantFlap 48 = .ok (.iload 4, 2) := oq_21 bdX0_wantFlap_34.2.2.2.2.2.2.2.2.2.1
theorem dX0_wantFlap_50 : decode cX0_wantFlap 50 = .ok (.ifCond .lt 24, 3) := oq_155 bdX0_wantFlap_34.2.2.2.2.2.2.2.2.2.2.1
theorem dX0_wantFlap_53 : decode cX0_wantFlap 53 = .ok (.iload 4, 2) := oq_21 bdX0_wantFlap_34.2.2.2.2.2.2.2.2.2.2.2
theorem bdX0_wantFlap_55 : (pre_b (List.drop 55 cX0_wantFlap.data.toList) [42]) = true ∧ (pre_b (List.drop 56 cX0_wantFlap.data.toList) [180, 0, 46] && Nat.beq (0 * 256 + 46) 46) = true ∧ (pre_b (List.drop 59 cX0_wantFlap.data.toList) [190]) = true ∧ (pre_b (List.drop 60 cX0_wantFlap.data.toList) [162, 0, 14] && decide (Reader.signed 16 (0 * 256 + 14) = 14)) = true ∧ (pre_b (List.drop 63 cX0_wantFlap.data.toList) [42]) = true ∧ (pre_b (List.drop 64 cX0_wantFlap.data.toList) [180, 0, 46] && Nat.beq (0 * 256 + 46) 46) = true ∧ (pre_b (List.drop 67 cX0_wantFlap.data.toList) [21, 4] && Nat.beq (4) 4) = true ∧ (pre_b (List.drop 69 cX0_wantFlap.data.toList) [92]) = true ∧ (pre_b (List.drop 70 cX0_wantFlap.data.toList) [46]) = true ∧ (pre_b (List.drop 71 cX0_wantFlap.data.toList) [4]) = true ∧ (pre_b (List.drop 72 cX0_wantFlap.data.toList) [96]) = true ∧ (pre_b (List.drop 73 cX0_wantFlap.data.toList) [79]) = true := by decide +kernel
theorem dX0_wantFlap_55 : decode cX0_wantFlap 55 = .ok (.aload_n 0, 1) := oq_42 bdX0_wantFlap_55.1
theorem dX0_wantFlap_56 : decode cX0_wantFlap 56 = .ok (.getfield 46, 3) := oq_180 bdX0_wantFlap_55.2.1
theorem dX0_wantFlap_59 : decode cX0_wantFlap 59 = .ok (.arraylength, 1) := oq_190 bdX0_wantFlap_55.2.2.1
theorem dX0_wantFlap_60 : decode cX0_wantFlap 60 = .ok (.if_icmp .ge 14, 3) := oq_162 bdX0_wantFlap_55.2.2.2.1
theorem dX0_wantFlap_63 : decode cX0_wantFlap 63 = .ok (.aload_n 0, 1) := oq_42 bdX0_wantFlap_55.2.2.2.2.1
theorem dX0_wantFlap_64 : decode cX0_wantFlap 64 = .ok (.getfield 46, 3) := oq_180 bdX0_wantFlap_55.2.2.2.2.2.1
theorem dX0_wantFlap_67 : decode cX0_wantFlap 67 = .ok (.iload 4, 2) := oq_21 bdX0_wantFlap_55.2.2.2.2.2.2.1
theorem dX0_wantFlap_69 : decode cX0_wantFlap 69 = .ok (.dup2, 1) := oq_92 bdX0_wantFlap_55.2.2.2.2.2.2.2.1
theorem dX0_wantFlap_70 : decode cX0_wantFlap 70 = .ok (.iaload, 1) := oq_46 bdX0_wantFlap_55.2.2.2.2.2.2.2.2.1
theorem dX0_wantFlap_71 : decode cX0_wantFlap 71 = .ok (.iconst 1, 1) := oq_4 bdX0_wantFlap_55.2.2.2.2.2.2.2.2.2.1
theorem dX0_wantFlap_72 : decode cX0_wantFlap 72 = .ok (.iadd, 1) := oq_96 bdX0_wantFlap_55.2.2.2.2.2.2.2.2.2.2.1
theorem dX0_wantFlap_73 : decode cX0_wantFlap 73 = .ok (.iastore, 1) := oq_79 bdX0_wantFlap_55.2.2.2.2.2.2.2.2.2.2.2
theorem bdX0_wantFlap_74 : (pre_b (List.drop 74 cX0_wantFlap.data.toList) [3]) = true ∧ (pre_b (List.drop 75 cX0_wantFlap.data.toList) [172]) = true := by decide +kernel
theorem dX0_wantFlap_74 : decode cX0_wantFlap 74 = .ok (.iconst 0, 1) := oq_3 bdX0_wantFlap_74.1
theorem dX0_wantFlap_75 : decode cX0_wantFlap 75 = .ok (.ireturn, 1) := oq_172 bdX0_wantFlap_74.2
theorem bdX0_wantSigns_0 : (pre_b (List.drop 0 cX0_wantSigns.data.toList) [3]) = true ∧ (pre_b (List.drop 1 cX0_wantSigns.data.toList) [54, 5] && Nat.beq (5) 5) = true ∧ (pre_b (List.drop 3 cX0_wantSigns.data.toList) [3]) = true ∧ (pre_b (List.drop 4 cX0_wantSigns.data.toList) [54, 6] && Nat.beq (6) 6) = true ∧ (pre_b (List.drop 6 cX0_wantSigns.data.toList) [21, 6] && Nat.beq (6) 6) = true ∧ (pre_b (List.drop 8 cX0_wantSigns.data.toList) [42]) = true ∧ (pre_b (List.drop 9 cX0_wantSigns.data.toList) [180, 0, 53] && Nat.beq (0 * 256 + 53) 53) = true ∧ (pre_b (List.drop 12 cX0_wantSigns.data.toList) [162, 0, 43] && decide (Reader.signed 16 (0 * 256 + 43) = 43)) = true ∧ (pre_b (List.drop 15 cX0_wantSigns.data.toList) [27]) = true ∧ (pre_b (List.drop 16 cX0_wantSigns.data.toList) [42]) = true ∧ (pre_b (List.drop 17 cX0_wantSigns.data.toList) [180, 0, 53] && Nat.beq (0 * 256 + 53) 53) = true ∧ (pre_b (List.drop 20 cX0_wantSigns.data.toList) [104]) = true := by decide +kernel
theorem dX0_wantSigns_0 : decode cX0_wantSigns 0 = .ok (.iconst 0, 1) := oq_3 bdX0_wantSigns_0.1
theorem dX0_wantSigns_1 : decode cX0_wantSigns 1 = .ok (.istore 5, 2) := oq_54 bdX0_wantSigns_0.2.1
theorem dX0_wantSigns_3 : decode cX0_wantSigns 3 = .ok (.iconst 0, 1) := oq_3 bdX0_wantSigns_0.2.2.1
theorem dX0_wantSigns_4 : decode cX0_wantSigns 4 = .ok (.istore 6, 2) := oq_54 bdX0_wantSigns_0.2.2.2.1
theorem dX0_wantSigns_6 : decode cX0_wantSigns 6 = .ok (.iload 6, 2) := oq_21 bdX0_wantSigns_0.2.2.2.2.1
theorem dX0_wantSigns_8 : decode cX0_wantSigns 8 = .ok (.aload_n 0, 1) := oq_42 bdX0_wantSigns_0.2.2.2.2.2.1
theorem dX0_wantSigns_9 : decode cX0_wantSigns 9 = .ok (.getfield 53, 3) := oq_180 bdX0_wantSigns_0.2.2.2.2.2.2.1
theorem dX0_wantSigns_12 : decode cX0_wantSigns 12 = .ok (.if_icmp .ge 43, 3) := oq_162 bdX0_wantSigns_0.2.2.2.2.2.2.2.1
theorem dX0_wantSigns_15 : decode cX0_wantSigns 15 = .ok (.iload_n 1, 1) := oq_27 bdX0_wantSigns_0.2.2.2.2.2.2.2.2.1
theorem dX0_wantSigns_16 : decode cX0_wantSigns 16 = .ok (.aload_n 0, 1) := oq_42 bdX0_wantSigns_0.2.2.2.2.2.2.2.2.2.1
theorem dX0_wantSigns_17 : decode cX0_wantSigns 17 = .ok (.getfield 53, 3) := oq_180 bdX0_wantSigns_0.2.2.2.2.2.2.2.2.2.2.1
theorem dX0_wantSigns_20 : decode cX0_wantSigns 20 = .ok (.imul, 1) := oq_104 bdX0_wantSigns_0.2.2.2.2.2.2.2.2.2.2.2
theorem bdX0_wantSigns_21 : (pre_b (List.drop 21 cX0_wantSigns.data.toList) [21, 6] && Nat.beq (6) 6) = true ∧ (pre_b (List.drop 23 cX0_wantSigns.data.toList) [96]) = true ∧ (pre_b (List.drop 24 cX0_wantSigns.data.toList) [54, 7] && Nat.beq (7) 7) = true ∧ (pre_b (List.drop 26 cX0_wantSigns.data.toList) [21, 5] && Nat.beq (5) 5) = true ∧ (pre_b (List.drop 28 cX0_wantSigns.data.toList) [42]) = true ∧ (pre_b (List.drop 29 cX0_wantSigns.data.toList) [21, 7] && Nat.beq (7) 7) = true ∧ (pre_b (List.drop 31 cX0_wantSigns.data.toList) [42]) = true ∧ (pre_b (List.drop 32 cX0_wantSigns.data.toList) [21, 7] && Nat.beq (7) 7) = true ∧ (pre_b (List.drop 34 cX0_wantSigns.data.toList) [21, 6] && Nat.beq (6) 6) = true ∧ (pre_b (List.drop 36 cX0_wantSigns.data.toList) [44]) = true ∧ (pre_b (List.drop 37 cX0_wantSigns.data.toList) [29]) = true ∧ (pre_b (List.drop 38 cX0_wantSigns.data.toList) [21, 4] && Nat.beq (4) 4) = true := by decide +kernel
theorem dX0_wantSigns_21 : decode cX0_wantSigns 21 = .ok (.iload 6, 2) := oq_21 bdX0_wantSigns_21.1
theorem dX0_wantSigns_23 : decode cX0_wantSigns 23 = .ok (.iadd, 1) := oq_96 bdX0_wantSigns_21.2.1
theorem dX0_wantSigns_24 : decode cX0_wantSigns 24 = .ok (.istore 7, 2) := oq_54 bdX0_wantSigns_21.2.2.1
theorem dX0_wantSigns_26 : decode cX0_wantSigns 26 = .ok (.iload 5, 2) := oq_21 bdX0_wantSigns_21.2.2.2.1
theorem dX0_wantSigns_28 : decode cX0_wantSigns 28 = .ok (.aload_n 0, 1) := oq_42 bdX0_wantSigns_21.2.2.2.2.1
theorem dX0_wantSigns_29 : decode cX0_wantSigns 29 = .ok (.iload 7, 2) := oq_21 bdX0_wantSigns_21.2.2.2.2.2.1
theorem dX0_wantSigns_31 : decode cX0_wantSigns 31 = .ok (.aload_n 0, 1) := oq_42 bdX0_wantSigns_21.2.2.2.2.2.2.1
theorem dX0_wantSigns_32 : decode cX0_wantSigns 32 = .ok (.iload 7, 2) := oq_21 bdX0_wantSigns_21.2.2.2.2.2.2.2.1
theorem dX0_wantSigns_34 : decode cX0_wantSigns 34 = .ok (.iload 6, 2) := oq_21 bdX0_wantSigns_21.2.2.2.2.2.2.2.2.1
theorem dX0_wantSigns_36 : decode cX0_wantSigns 36 = .ok (.aload_n 2, 1) := oq_44 bdX0_wantSigns_21.2.2.2.2.2.2.2.2.2.1
theorem dX0_wantSigns_37 : decode cX0_wantSigns 37 = .ok (.iload_n 3, 1) := oq_29 bdX0_wantSigns_21.2.2.2.2.2.2.2.2.2.2.1
theorem dX0_wantSigns_38 : decode cX0_wantSigns 38 = .ok (.iload 4, 2) := oq_21 bdX0_wantSigns_21.2.2.2.2.2.2.2.2.2.2.2
theorem bdX0_wantSigns_40 : (pre_b (List.drop 40 cX0_wantSigns.data.toList) [182, 0, 157] && Nat.beq (0 * 256 + 157) 157) = true ∧ (pre_b (List.drop 43 cX0_wantSigns.data.toList) [182, 0, 164] && Nat.beq (0 * 256 + 164) 164) = true ∧ (pre_b (List.drop 46 cX0_wantSigns.data.toList) [96]) = true ∧ (pre_b (List.drop 47 cX0_wantSigns.data.toList) [54, 5] && Nat.beq (5) 5) = true ∧ (pre_b (List.drop 49 cX0_wantSigns.data.toList) [132, 6, 1] && Nat.beq (6) 6 && decide (Reader.signed 8 (1) = 1)) = true ∧ (pre_b (List.drop 52 cX0_wantSigns.data.toList) [167, 255, 210] && decide (Reader.signed 16 (255 * 256 + 210) = (-46))) = true ∧ (pre_b (List.drop 55 cX0_wantSigns.data.toList) [21, 5] && Nat.beq (5) 5) = true ∧ (pre_b (List.drop 57 cX0_wantSigns.data.toList) [172]) = true := by decide +kernel
theorem dX0_wantSigns_40 : decode cX0_wantSigns 40 = .ok (.invokevirtual 157, 3) := oq_182 bdX0_wantSigns_40.1
theorem dX0_wantSigns_43 : decode cX0_wantSigns 43 = .ok (.invokevirtual 164, 3) := oq_182 bdX0_wantSigns_40.2.1
theorem dX0_wantSigns_46 : decode cX0_wantSigns 46 = .ok (.iadd, 1) := oq_96 bdX0_wantSigns_40.2.2.1
theorem dX0_wantSigns_47 : decode cX0_wantSigns 47 = .ok (.istore 5, 2) := oq_54 bdX0_wantSigns_40.2.2.2.1
theorem dX0_wantSigns_49 : decode cX0_wantSigns 49 = .ok (.iinc 6 1, 3) := oq_132 bdX0_wantSigns_40.2.2.2.2.1
theorem dX0_wantSigns_52 : decode cX0_wantSigns 52 = .ok (.goto (-46), 3) := oq_167 bdX0_wantSigns_40.2.2.2.2.2.1
theorem dX0_wantSigns_55 : decode cX0_wantSigns 55 = .ok (.iload 5, 2) := oq_21 bdX0_wantSigns_40.2.2.2.2.2.2.1
theorem dX0_wantSigns_57 : decode cX0_wantSigns 57 = .ok (.ireturn, 1) := oq_172 bdX0_wantSigns_40.2.2.2.2.2.2.2
theorem bdX0_scrollUp_0 : (pre_b (List.drop 0 cX0_scrollUp.data.toList) [3]) = true ∧ (pre_b (List.drop 1 cX0_scrollUp.data.toList) [54, 4] && Nat.beq (4) 4) = true ∧ (pre_b (List.drop 3 cX0_scrollUp.data.toList) [3]) = true ∧ (pre_b (List.drop 4 cX0_scrollUp.data.toList) [54, 5] && Nat.beq (5) 5) = true ∧ (pre_b (List.drop 6 cX0_scrollUp.data.toList) [21, 5] && Nat.beq (5) 5) = true ∧ (pre_b (List.drop 8 cX0_scrollUp.data.toList) [42]) = true ∧ (pre_b (List.drop 9 cX0_scrollUp.data.toList) [182, 0, 102] && Nat.beq (0 * 256 + 102) 102) = true ∧ (pre_b (List.drop 12 cX0_scrollUp.data.toList) [42]) = true ∧ (pre_b (List.drop 13 cX0_scrollUp.data.toList) [180, 0, 53] && Nat.beq (0 * 256 + 53) 53) = true ∧ (pre_b (List.drop 16 cX0_scrollUp.data.toList) [100]) = true ∧ (pre_b (List.drop 17 cX0_scrollUp.data.toList) [162, 0, 37] && decide (Reader.signed 16 (0 * 256 + 37) = 37)) = true ∧ (pre_b (List.drop 20 cX0_scrollUp.data.toList) [21, 4] && Nat.beq (4) 4) = true := by decide +kernel
theorem dX0_scrollUp_0 : decode cX0_scrollUp 0 = .ok (.iconst 0, 1) := oq_3 bdX0_scrollUp_0.1
theorem dX0_scrollUp_1 : decode cX0_scrollUp 1 = .ok (.istore 4, 2) := oq_54 bdX0_scrollUp_0.2.1
theorem dX0_scrollUp_3 : decode cX0_scrollUp 3 = .ok (.iconst 0, 1) := oq_3 bdX0_scrollUp_0.2.2.1
theorem dX0_scrollUp_4 : decode cX0_scrollUp 4 = .ok (.istore 5, 2) := oq_54 bdX0_scrollUp_0.2.2.2.1
theorem dX0_scrollUp_6 : decode cX0_scrollUp 6 = .ok (.iload 5, 2) := oq_21 bdX0_scrollUp_0.2.2.2.2.1
theorem dX0_scrollUp_8 : decode cX0_scrollUp 8 = .ok (.aload_n 0, 1) := oq_42 bdX0_scrollUp_0.2.2.2.2.2.1
theorem dX0_scrollUp_9 : decode cX0_scrollUp 9 = .ok (.invokevirtual 102, 3) := oq_182 bdX0_scrollUp_0.2.2.2.2.2.2.1
theorem dX0_scrollUp_12 : decode cX0_scrollUp 12 = .ok (.aload_n 0, 1) := oq_42 bdX0_scrollUp_0.2.2.2.2.2.2.2.1
theorem dX0_scrollUp_13 : decode cX0_scrollUp 13 = .ok (.getfield 53, 3) := oq_180 bdX0_scrollUp_0.2.2.2.2.2.2.2.2.1
theorem dX0_scrollUp_16 : decode cX0_scrollUp 16 = .ok (.isub, 1) := oq_100 bdX0_scrollUp_0.2.2.2.2.2.2.2.2.2.1
theorem dX0_scrollUp_17 : decode cX0_scrollUp 17 = .ok (.if_icmp .ge 37, 3) := oq_162 bdX0_scrollUp_0.2.2.2.2.2.2.2.2.2.2.1
theorem dX0_scrollUp_20 : decode cX0_scrollUp 20 = .ok (.iload 4, 2) := oq_21 bdX0_scrollUp_0.2.2.2.2.2.2.2.2.2.2.2
theorem bdX0_scrollUp_22 : (pre_b (List.drop 22 cX0_scrollUp.data.toList) [42]) = true ∧ (pre_b (List.drop 23 cX0_scrollUp.data.toList) [21, 5] && Nat.beq (5) 5) = true ∧ (pre_b (List.drop 25 cX0_scrollUp.data.toList) [42]) = true ∧ (pre_b (List.drop 26 cX0_scrollUp.data.toList) [21, 5] && Nat.beq (5) 5) = true ∧ (pre_b (List.drop 28 cX0_scrollUp.data.toList) [42]) = true ∧ (pre_b (List.drop 29 cX0_scrollUp.data.toList) [21, 5] && Nat.beq (5) 5) = true ∧ (pre_b (List.drop 31 cX0_scrollUp.data.toList) [42]) = true ∧ (pre_b (List.drop 32 cX0_scrollUp.data.toList) [180, 0, 53] && Nat.beq (0 * 256 + 53) 53) = true ∧ (pre_b (List.drop 35 cX0_scrollUp.data.toList) [96]) = true ∧ (pre_b (List.drop 36 cX0_scrollUp.data.toList) [182, 0, 117] && Nat.beq (0 * 256 + 117) 117) = true ∧ (pre_b (List.drop 39 cX0_scrollUp.data.toList) [182, 0, 137] && Nat.beq (0 * 256 + 137) 137) = true ∧ (pre_b (List.drop 42 cX0_scrollUp.data.toList) [182, 0, 164] && Nat.beq (0 * 256 + 164) 164) = true := by decide +kernel
theorem dX0_scrollUp_22 : decode cX0_scrollUp 22 = .ok (.aload_n 0, 1) := oq_42 bdX0_scrollUp_22.1
theorem dX0_scrollUp_23 : decode cX0_scrollUp 23 = .ok (.iload 5, 2) := oq_21 bdX0_scrollUp_22.2.1
theorem dX0_scrollUp_25 : decode cX0_scrollUp 25 = .ok (.aload_n 0, 1) := oq_42 bdX0_scrollUp_22.2.2.1
theorem dX0_scrollUp_26 : decode cX0_scrollUp 26 = .ok (.iload 5, 2) := oq_21 bdX0_scrollUp_22.2.2.2.1
theorem dX0_scrollUp_28 : decode cX0_scrollUp 28 = .ok (.aload_n 0, 1) := oq_42 bdX0_scrollUp_22.2.2.2.2.1
theorem dX0_scrollUp_29 : decode cX0_scrollUp 29 = .ok (.iload 5, 2) := oq_21 bdX0_scrollUp_22.2.2.2.2.2.1
theorem dX0_scrollUp_31 : decode cX0_scrollUp 31 = .ok (.aload_n 0, 1) := oq_42 bdX0_scrollUp_22.2.2.2.2.2.2.1
theorem dX0_scrollUp_32 : decode cX0_scrollUp 32 = .ok (.getfield 53, 3) := oq_180 bdX0_scrollUp_22.2.2.2.2.2.2.2.1
theorem dX0_scrollUp_35 : decode cX0_scrollUp 35 = .ok (.iadd, 1) := oq_96 bdX0_scrollUp_22.2.2.2.2.2.2.2.2.1
theorem dX0_scrollUp_36 : decode cX0_scrollUp 36 = .ok (.invokevirtual 117, 3) := oq_182 bdX0_scrollUp_22.2.2.2.2.2.2.2.2.2.1
theorem dX0_scrollUp_39 : decode cX0_scrollUp 39 = .ok (.invokevirtual 137, 3) := oq_182 bdX0_scrollUp_22.2.2.2.2.2.2.2.2.2.2.1
theorem dX0_scrollUp_42 : decode cX0_scrollUp 42 = .ok (.invokevirtual 164, 3) := oq_182 bdX0_scrollUp_22.2.2.2.2.2.2.2.2.2.2.2
theorem bdX0_scrollUp_45 : (pre_b (List.drop 45 cX0_scrollUp.data.toList) [96]) = true ∧ (pre_b (List.drop 46 cX0_scrollUp.data.toList) [54, 4] && Nat.beq (4) 4) = true ∧ (pre_b (List.drop 48 cX0_scrollUp.data.toList) [132, 5, 1] && Nat.beq (5) 5 && decide (Reader.signed 8 (1) = 1)) = true ∧ (pre_b (List.drop 51 cX0_scrollUp.data.toList) [167, 255, 211] && decide (Reader.signed 16 (255 * 256 + 211) = (-45))) = true ∧ (pre_b (List.drop 54 cX0_scrollUp.data.toList) [21, 4] && Nat.beq (4) 4) = true ∧ (pre_b (List.drop 56 cX0_scrollUp.data.toList) [42]) = true ∧ (pre_b (List.drop 57 cX0_scrollUp.data.toList) [42]) = true ∧ (pre_b (List.drop 58 cX0_scrollUp.data.toList) [180, 0, 49] && Nat.beq (0 * 256 + 49) 49) = true ∧ (pre_b (List.drop 61 cX0_scrollUp.data.toList) [4]) = true ∧ (pre_b (List.drop 62 cX0_scrollUp.data.toList) [100]) = true ∧ (pre_b (List.drop 63 cX0_scrollUp.data.toList) [43]) = true ∧ (pre_b (List.drop 64 cX0_scrollUp.data.toList) [28]) = true := by decide +kernel
theorem dX0_scrollUp_45 : decode cX0_scrollUp 45 = .ok (.iadd, 1) := oq_96 bdX0_scrollUp_45.1
theorem dX0_scrollUp_46 : decode cX0_scrollUp 46 = .ok (.istore 4, 2) := oq_54 bdX0_scrollUp_45.2.1
theorem dX0_scrollUp_48 : decode cX0_scrollUp 48 = .ok (.iinc 5 1, 3) := oq_132 bdX0_scrollUp_45.2.2.1
theorem dX0_scrollUp_51 : decode cX0_scrollUp 51 = .ok (.goto (-45), 3) := oq_167 bdX0_scrollUp_45.2.2.2.1
theorem dX0_scrollUp_54 : decode cX0_scrollUp 54 = .ok (.iload 4, 2) := oq_21 bdX0_scrollUp_45.2.2.2.2.1
theorem dX0_scrollUp_56 : decode cX0_scrollUp 56 = .ok (.aload_n 0, 1) := oq_42 bdX0_scrollUp_45.2.2.2.2.2.1
theorem dX0_scrollUp_57 : decode cX0_scrollUp 57 = .ok (.aload_n 0, 1) := oq_42 bdX0_scrollUp_45.2.2.2.2.2.2.1
theorem dX0_scrollUp_58 : decode cX0_scrollUp 58 = .ok (.getfield 49, 3) := oq_180 bdX0_scrollUp_45.2.2.2.2.2.2.2.1
theorem dX0_scrollUp_61 : decode cX0_scrollUp 61 = .ok (.iconst 1, 1) := oq_4 bdX0_scrollUp_45.2.2.2.2.2.2.2.2.1
theorem dX0_scrollUp_62 : decode cX0_scrollUp 62 = .ok (.isub, 1) := oq_100 bdX0_scrollUp_45.2.2.2.2.2.2.2.2.2.1
theorem dX0_scrollUp_63 : decode cX0_scrollUp 63 = .ok (.aload_n 1, 1) := oq_43 bdX0_scrollUp_45.2.2.2.2.2.2.2.2.2.2.1
theorem dX0_scrollUp_64 : decode cX0_scrollUp 64 = .ok (.iload_n 2, 1) := oq_28 bdX0_scrollUp_45.2.2.2.2.2.2.2.2.2.2.2
theorem bdX0_scrollUp_65 : (pre_b (List.drop 65 cX0_scrollUp.data.toList) [29]) = true ∧ (pre_b (List.drop 66 cX0_scrollUp.data.toList) [182, 0, 167] && Nat.beq (0 * 256 + 167) 167) = true ∧ (pre_b (List.drop 69 cX0_scrollUp.data.toList) [96]) = true ∧ (pre_b (List.drop 70 cX0_scrollUp.data.toList) [172]) = true := by decide +kernel
theorem dX0_scrollUp_65 : decode cX0_scrollUp 65 = .ok (.iload_n 3, 1) := oq_29 bdX0_scrollUp_65.1
theorem dX0_scrollUp_66 : decode cX0_scrollUp 66 = .ok (.invokevirtual 167, 3) := oq_182 bdX0_scrollUp_65.2.1
theorem dX0_scrollUp_69 : decode cX0_scrollUp 69 = .ok (.iadd, 1) := oq_96 bdX0_scrollUp_65.2.2.1
theorem dX0_scrollUp_70 : decode cX0_scrollUp 70 = .ok (.ireturn, 1) := oq_172 bdX0_scrollUp_65.2.2.2
theorem bdX0_wantHome_0 : (pre_b (List.drop 0 cX0_wantHome.data.toList) [3]) = true ∧ (pre_b (List.drop 1 cX0_wantHome.data.toList) [61]) = true ∧ (pre_b (List.drop 2 cX0_wantHome.data.toList) [28]) = true ∧ (pre_b (List.drop 3 cX0_wantHome.data.toList) [42]) = true ∧ (pre_b (List.drop 4 cX0_wantHome.data.toList) [180, 0, 53] && Nat.beq (0 * 256 + 53) 53) = true ∧ (pre_b (List.drop 7 cX0_wantHome.data.toList) [162, 0, 23] && decide (Reader.signed 16 (0 * 256 + 23) = 23)) = true ∧ (pre_b (List.drop 10 cX0_wantHome.data.toList) [42]) = true ∧ (pre_b (List.drop 11 cX0_wantHome.data.toList) [180, 0, 30] && Nat.beq (0 * 256 + 30) 30) = true ∧ (pre_b (List.drop 14 cX0_wantHome.data.toList) [27]) = true ∧ (pre_b (List.drop 15 cX0_wantHome.data.toList) [42]) = true ∧ (pre_b (List.drop 16 cX0_wantHome.data.toList) [180, 0, 53] && Nat.beq (0 * 256 + 53) 53) = true ∧ (pre_b (List.drop 19 cX0_wantHome.data.toList) [104]) = true := by decide +kernel
theorem dX0_wantHome_0 : decode cX0_wantHome 0 = .ok (.iconst 0, 1) := oq_3 bdX0_wantHome_0.1
theorem dX0_wantHome_1 : decode cX0_wantHome 1 = .ok (.istore_n 2, 1) := oq_61 bdX0_wantHome_0.2.1
theorem dX0_wantHome_2 : decode cX0_wantHome 2 = .ok (.iload_n 2, 1) := oq_28 bdX0_wantHome_0.2.2.1
theorem dX0_wantHome_3 : decode cX0_wantHome 3 = .ok (.aload_n 0, 1) := oq_42 bdX0_wantHome_0.2.2.2.1
theorem dX0_wantHome_4 : decode cX0_wantHome 4 = .ok (.getfield 53, 3) := oq_180 bdX0_wantHome_0.2.2.2.2.1
theorem dX0_wantHome_7 : decode cX0_wantHome 7 = .ok (.if_icmp .ge 23, 3) := oq_162 bdX0_wantHome_0.2.2.2.2.2.1
theorem dX0_wantHome_10 : decode cX0_wantHome 10 = .ok (.aload_n 0, 1) := oq_42 bdX0_wantHome_0.2.2.2.2.2.2.1
theorem dX0_wantHome_11 : decode cX0_wantHome 11 = .ok (.getfield 30, 3) := oq_180 bdX0_wantHome_0.2.2.2.2.2.2.2.1
theorem dX0_wantHome_14 : decode cX0_wantHome 14 = .ok (.iload_n 1, 1) := oq_27 bdX0_wantHome_0.2.2.2.2.2.2.2.2.1
theorem dX0_wantHome_15 : decode cX0_wantHome 15 = .ok (.aload_n 0, 1) := oq_42 bdX0_wantHome_0.2.2.2.2.2.2.2.2.2.1
theorem dX0_wantHome_16 : decode cX0_wantHome 16 = .ok (.getfield 53, 3) := oq_180 bdX0_wantHome_0.2.2.2.2.2.2.2.2.2.2.1
theorem dX0_wantHome_19 : decode cX0_wantHome 19 = .ok (.imul, 1) := oq_104 bdX0_wantHome_0.2.2.2.2.2.2.2.2.2.2.2
theorem bdX0_wantHome_20 : (pre_b (List.drop 20 cX0_wantHome.data.toList) [28]) = true ∧ (pre_b (List.drop 21 cX0_wantHome.data.toList) [96]) = true ∧ (pre_b (List.drop 22 cX0_wantHome.data.toList) [3]) = true ∧ (pre_b (List.drop 23 cX0_wantHome.data.toList) [79]) = true ∧ (pre_b (List.drop 24 cX0_wantHome.data.toList) [132, 2, 1] && Nat.beq (2) 2 && decide (Reader.signed 8 (1) = 1)) = true ∧ (pre_b (List.drop 27 cX0_wantHome.data.toList) [167, 255, 231] && decide (Reader.signed 16 (255 * 256 + 231) = (-25))) = true ∧ (pre_b (List.drop 30 cX0_wantHome.data.toList) [177]) = true := by decide +kernel
theorem dX0_wantHome_20 : decode cX0_wantHome 20 = .ok (.iload_n 2, 1) := oq_28 bdX0_wantHome_20.1
theorem dX0_wantHome_21 : decode cX0_wantHome 21 = .ok (.iadd, 1) := oq_96 bdX0_wantHome_20.2.1
theorem dX0_wantHome_22 : decode cX0_wantHome 22 = .ok (.iconst 0, 1) := oq_3 bdX0_wantHome_20.2.2.1
theorem dX0_wantHome_23 : decode cX0_wantHome 23 = .ok (.iastore, 1) := oq_79 bdX0_wantHome_20.2.2.2.1
theorem dX0_wantHome_24 : decode cX0_wantHome 24 = .ok (.iinc 2 1, 3) := oq_132 bdX0_wantHome_20.2.2.2.2.1
theorem dX0_wantHome_27 : decode cX0_wantHome 27 = .ok (.goto (-25), 3) := oq_167 bdX0_wantHome_20.2.2.2.2.2.1
theorem dX0_wantHome_30 : decode cX0_wantHome 30 = .ok (.return_, 1) := oq_177 bdX0_wantHome_20.2.2.2.2.2.2
theorem bdX0_showSigns_0 : (pre_b (List.drop 0 cX0_showSigns.data.toList) [3]) = true ∧ (pre_b (List.drop 1 cX0_showSigns.data.toList) [54, 5] && Nat.beq (5) 5) = true ∧ (pre_b (List.drop 3 cX0_showSigns.data.toList) [21, 5] && Nat.beq (5) 5) = true ∧ (pre_b (List.drop 5 cX0_showSigns.data.toList) [42]) = true ∧ (pre_b (List.drop 6 cX0_showSigns.data.toList) [180, 0, 53] && Nat.beq (0 * 256 + 53) 53) = true ∧ (pre_b (List.drop 9 cX0_showSigns.data.toList) [162, 0, 77] && decide (Reader.signed 16 (0 * 256 + 77) = 77)) = true ∧ (pre_b (List.drop 12 cX0_showSigns.data.toList) [27]) = true ∧ (pre_b (List.drop 13 cX0_showSigns.data.toList) [42]) = true ∧ (pre_b (List.drop 14 cX0_showSigns.data.toList) [180, 0, 53] && Nat.beq (0 * 256 + 53) 53) = true ∧ (pre_b (List.drop 17 cX0_showSigns.data.toList) [104]) = true ∧ (pre_b (List.drop 18 cX0_showSigns.data.toList) [21, 5] && Nat.beq (5) 5) = true ∧ (pre_b (List.drop 20 cX0_showSigns.data.toList) [96]) = true := by decide +kernel
theorem dX0_showSigns_0 : decode cX0_showSigns 0 = .ok (.iconst 0, 1) := oq_3 bdX0_showSigns_0.1
theorem dX0_showSigns_1 : decode cX0_showSigns 1 = .ok (.istore 5, 2) := oq_54 bdX0_showSigns_0.2.1
theorem dX0_showSigns_3 : decode cX0_showSigns 3 = .ok (.iload 5, 2) := oq_21 bdX0_showSigns_0.2.2.1
theorem dX0_showSigns_5 : decode cX0_showSigns 5 = .ok (.aload_n 0, 1) := oq_42 bdX0_showSigns_0.2.2.2.1
theorem dX0_showSigns_6 : decode cX0_showSigns 6 = .ok (.getfield 53, 3) := oq_180 bdX0_showSigns_0.2.2.2.2.1
theorem dX0_showSigns_9 : decode cX0_showSigns 9 = .ok (.if_icmp .ge 77, 3) := oq_162 bdX0_showSigns_0.2.2.2.2.2.1
theorem dX0_showSigns_12 : decode cX0_showSigns 12 = .ok (.iload_n 1, 1) := oq_27 bdX0_showSigns_0.2.2.2.2.2.2.1
theorem dX0_showSigns_13 : decode cX0_showSigns 13 = .ok (.aload_n 0, 1) := oq_42 bdX0_showSigns_0.2.2.2.2.2.2.2.1
theorem dX0_showSigns_14 : decode cX0_showSigns 14 = .ok (.getfield 53, 3) := oq_180 bdX0_showSigns_0.2.2.2.2.2.2.2.2.1
theorem dX0_showSigns_17 : decode cX0_showSigns 17 = .ok (.imul, 1) := oq_104 bdX0_showSigns_0.2.2.2.2.2.2.2.2.2.1
theorem dX0_showSigns_18 : decode cX0_showSigns 18 = .ok (.iload 5, 2) := oq_21 bdX0_showSigns_0.2.2.2.2.2.2.2.2.2.2.1
theorem dX0_showSigns_20 : decode cX0_showSigns 20 = .ok (.iadd, 1) := oq_96 bdX0_showSigns_0.2.2.2.2.2.2.2.2.2.2.2
theorem bdX0_showSigns_21 : (pre_b (List.drop 21 cX0_showSigns.data.toList) [54, 6] && Nat.beq (6) 6) = true ∧ (pre_b (List.drop 23 cX0_showSigns.data.toList) [42]) = true ∧ (pre_b (List.drop 24 cX0_showSigns.data.toList) [21, 6] && Nat.beq (6) 6) = true ∧ (pre_b (List.drop 26 cX0_showSigns.data.toList) [21, 5] && Nat.beq (5) 5) = true ∧ (pre_b (List.drop 28 cX0_showSigns.data.toList) [44]) = true ∧ (pre_b (List.drop 29 cX0_showSigns.data.toList) [29]) = true ∧ (pre_b (List.drop 30 cX0_showSigns.data.toList) [21, 4] && Nat.beq (4) 4) = true ∧ (pre_b (List.drop 32 cX0_showSigns.data.toList) [182, 0, 157] && Nat.beq (0 * 256 + 157) 157) = true ∧ (pre_b (List.drop 35 cX0_showSigns.data.toList) [54, 7] && Nat.beq (7) 7) = true ∧ (pre_b (List.drop 37 cX0_showSigns.data.toList) [21, 7] && Nat.beq (7) 7) = true ∧ (pre_b (List.drop 39 cX0_showSigns.data.toList) [2]) = true ∧ (pre_b (List.drop 40 cX0_showSigns.data.toList) [159, 0, 12] && decide (Reader.signed 16 (0 * 256 + 12) = 12)) = true := by decide +kernel
theorem dX0_showSigns_21 : decode cX0_showSigns 21 = .ok (.istore 6, 2) := oq_54 bdX0_showSigns_21.1
theorem dX0_showSigns_23 : decode cX0_showSigns 23 = .ok (.aload_n 0, 1) := oq_42 bdX0_showSigns_21.2.1
theorem dX0_showSigns_24 : decode cX0_showSigns 24 = .ok (.iload 6, 2) := oq_21 bdX0_showSigns_21.2.2.1
theorem dX0_showSigns_26 : decode cX0_showSigns 26 = .ok (.iload 5, 2) := oq_21 bdX0_showSigns_21.2.2.2.1
theorem dX0_showSigns_28 : decode cX0_showSigns 28 = .ok (.aload_n 2, 1) := oq_44 bdX0_showSigns_21.2.2.2.2.1
theorem dX0_showSigns_29 : decode cX0_showSigns 29 = .ok (.iload_n 3, 1) := oq_29 bdX0_showSigns_21.2.2.2.2.2.1
theorem dX0_showSigns_30 : decode cX0_showSigns 30 = .ok (.iload 4, 2) := oq_21 bdX0_showSigns_21.2.2.2.2.2.2.1
theorem dX0_showSigns_32 : decode cX0_showSigns 32 = .ok (.invokevirtual 157, 3) := oq_182 bdX0_showSigns_21.2.2.2.2.2.2.2.1
theorem dX0_showSigns_35 : decode cX0_showSigns 35 = .ok (.istore 7, 2) := oq_54 bdX0_showSigns_21.2.2.2.2.2.2.2.2.1
theorem dX0_showSigns_37 : decode cX0_showSigns 37 = .ok (.iload 7, 2) := oq_21 bdX0_showSigns_21.2.2.2.2.2.2.2.2.2.1
theorem dX0_showSigns_39 : decode cX0_showSigns 39 = .ok (.iconst (-1), 1) := oq_2 bdX0_showSigns_21.2.2.2.2.2.2.2.2.2.2.1
theorem dX0_showSigns_40 : decode cX0_showSigns 40 = .ok (.if_icmp .eq 12, 3) := oq_159 bdX0_showSigns_21.2.2.2.2.2.2.2.2.2.2.2
theorem bdX0_showSigns_43 : (pre_b (List.drop 43 cX0_showSigns.data.toList) [42]) = true ∧ (pre_b (List.drop 44 cX0_showSigns.data.toList) [180, 0, 30] && Nat.beq (0 * 256 + 30) 30) = true ∧ (pre_b (List.drop 47 cX0_showSigns.data.toList) [21, 6] && Nat.beq (6) 6) = true ∧ (pre_b (List.drop 49 cX0_showSigns.data.toList) [21, 7] && Nat.beq (7) 7) = true ∧ (pre_b (List.drop 51 cX0_showSigns.data.toList) [79]) = true ∧ (pre_b (List.drop 52 cX0_showSigns.data.toList) [42]) = true ∧ (pre_b (List.drop 53 cX0_showSigns.data.toList) [180, 0, 24] && Nat.beq (0 * 256 + 24) 24) = true ∧ (pre_b (List.drop 56 cX0_showSigns.data.toList) [21, 6] && Nat.beq (6) 6) = true ∧ (pre_b (List.drop 58 cX0_showSigns.data.toList) [42]) = true ∧ (pre_b (List.drop 59 cX0_showSigns.data.toList) [180, 0, 30] && Nat.beq (0 * 256 + 30) 30) = true ∧ (pre_b (List.drop 62 cX0_showSigns.data.toList) [21, 6] && Nat.beq (6) 6) = true ∧ (pre_b (List.drop 64 cX0_showSigns.data.toList) [46]) = true := by decide +kernel
theorem dX0_showSigns_43 : decode cX0_showSigns 43 = .ok (.aload_n 0, 1) := oq_42 bdX0_showSigns_43.1
theorem dX0_showSigns_44 : decode cX0_showSigns 44 = .ok (.getfield 30, 3) := oq_180 bdX0_showSigns_43.2.1
theorem dX0_showSigns_47 : decode cX0_showSigns 47 = .ok (.iload 6, 2) := oq_21 bdX0_showSigns_43.2.2.1
theorem dX0_showSigns_49 : decode cX0_showSigns 49 = .ok (.iload 7, 2) := oq_21 bdX0_showSigns_43.2.2.2.1
theorem dX0_showSigns_51 : decode cX0_showSigns 51 = .ok (.iastore, 1) := oq_79 bdX0_showSigns_43.2.2.2.2.1
theorem dX0_showSigns_52 : decode cX0_showSigns 52 = .ok (.aload_n 0, 1) := oq_42 bdX0_showSigns_43.2.2.2.2.2.1
theorem dX0_showSigns_53 : decode cX0_showSigns 53 = .ok (.getfield 24, 3) := oq_180 bdX0_showSigns_43.2.2.2.2.2.2.1
theorem dX0_showSigns_56 : decode cX0_showSigns 56 = .ok (.iload 6, 2) := oq_21 bdX0_showSigns_43.2.2.2.2.2.2.2.1
theorem dX0_showSigns_58 : decode cX0_showSigns 58 = .ok (.aload_n 0, 1) := oq_42 bdX0_showSigns_43.2.2.2.2.2.2.2.2.1
theorem dX0_showSigns_59 : decode cX0_showSigns 59 = .ok (.getfield 30, 3) := oq_180 bdX0_showSigns_43.2.2.2.2.2.2.2.2.2.1
theorem dX0_showSigns_62 : decode cX0_showSigns 62 = .ok (.iload 6, 2) := oq_21 bdX0_showSigns_43.2.2.2.2.2.2.2.2.2.2.1
theorem dX0_showSigns_64 : decode cX0_showSigns 64 = .ok (.iaload, 1) := oq_46 bdX0_showSigns_43.2.2.2.2.2.2.2.2.2.2.2
theorem bdX0_showSigns_65 : (pre_b (List.drop 65 cX0_showSigns.data.toList) [79]) = true ∧ (pre_b (List.drop 66 cX0_showSigns.data.toList) [42]) = true ∧ (pre_b (List.drop 67 cX0_showSigns.data.toList) [180, 0, 27] && Nat.beq (0 * 256 + 27) 27) = true ∧ (pre_b (List.drop 70 cX0_showSigns.data.toList) [21, 6] && Nat.beq (6) 6) = true ∧ (pre_b (List.drop 72 cX0_showSigns.data.toList) [42]) = true ∧ (pre_b (List.drop 73 cX0_showSigns.data.toList) [180, 0, 30] && Nat.beq (0 * 256 + 30) 30) = true ∧ (pre_b (List.drop 76 cX0_showSigns.data.toList) [21, 6] && Nat.beq (6) 6) = true ∧ (pre_b (List.drop 78 cX0_showSigns.data.toList) [46]) = true ∧ (pre_b (List.drop 79 cX0_showSigns.data.toList) [79]) = true ∧ (pre_b (List.drop 80 cX0_showSigns.data.toList) [132, 5, 1] && Nat.beq (5) 5 && decide (Reader.signed 8 (1) = 1)) = true ∧ (pre_b (List.drop 83 cX0_showSigns.data.toList) [167, 255, 176] && decide (Reader.signed 16 (255 * 256 + 176) = (-80))) = true ∧ (pre_b (List.drop 86 cX0_showSigns.data.toList) [177]) = true := by decide +kernel
theorem dX0_showSigns_65 : decode cX0_showSigns 65 = .ok (.iastore, 1) := oq_79 bdX0_showSigns_65.1
theorem dX0_showSigns_66 : decode cX0_showSigns 66 = .ok (.aload_n 0, 1) := oq_42 bdX0_showSigns_65.2.1
theorem dX0_showSigns_67 : decode cX0_showSigns 67 = .ok (.getfield 27, 3) := oq_180 bdX0_showSigns_65.2.2.1
theorem dX0_showSigns_70 : decode cX0_showSigns 70 = .ok (.iload 6, 2) := oq_21 bdX0_showSigns_65.2.2.2.1
theorem dX0_showSigns_72 : decode cX0_showSigns 72 = .ok (.aload_n 0, 1) := oq_42 bdX0_showSigns_65.2.2.2.2.1
theorem dX0_showSigns_73 : decode cX0_showSigns 73 = .ok (.getfield 30, 3) := oq_180 bdX0_showSigns_65.2.2.2.2.2.1
theorem dX0_showSigns_76 : decode cX0_showSigns 76 = .ok (.iload 6, 2) := oq_21 bdX0_showSigns_65.2.2.2.2.2.2.1
theorem dX0_showSigns_78 : decode cX0_showSigns 78 = .ok (.iaload, 1) := oq_46 bdX0_showSigns_65.2.2.2.2.2.2.2.1
theorem dX0_showSigns_79 : decode cX0_showSigns 79 = .ok (.iastore, 1) := oq_79 bdX0_showSigns_65.2.2.2.2.2.2.2.2.1
theorem dX0_showSigns_80 : decode cX0_showSigns 80 = .ok (.iinc 5 1, 3) := oq_132 bdX0_showSigns_65.2.2.2.2.2.2.2.2.2.1
theorem dX0_showSigns_83 : decode cX0_showSigns 83 = .ok (.goto (-80), 3) := oq_167 bdX0_showSigns_65.2.2.2.2.2.2.2.2.2.2.1
theorem dX0_showSigns_86 : decode cX0_showSigns 86 = .ok (.return_, 1) := oq_177 bdX0_showSigns_65.2.2.2.2.2.2.2.2.2.2.2
theorem bdX6_behind_0 : (pre_b (List.drop 0 cX6_behind.data.toList) [26]) = true ∧ (pre_b (List.drop 1 cX6_behind.data.toList) [4]) = true ∧ (pre_b (List.drop 2 cX6_behind.data.toList) [96]) = true ∧ (pre_b (List.drop 3 cX6_behind.data.toList) [27]) = true ∧ (pre_b (List.drop 4 cX6_behind.data.toList) [162, 0, 9] && decide (Reader.signed 16 (0 * 256 + 9) = 9)) = true ∧ (pre_b (List.drop 7 cX6_behind.data.toList) [26]) = true ∧ (pre_b (List.drop 8 cX6_behind.data.toList) [4]) = true ∧ (pre_b (List.drop 9 cX6_behind.data.toList) [96]) = true ∧ (pre_b (List.drop 10 cX6_behind.data.toList) [167, 0, 4] && decide (Reader.signed 16 (0 * 256 + 4) = 4)) = true ∧ (pre_b (List.drop 13 cX6_behind.data.toList) [3]) = true ∧ (pre_b (List.drop 14 cX6_behind.data.toList) [172]) = true := by decide +kernel
theorem dX6_behind_0 : decode cX6_behind 0 = .ok (.iload_n 0, 1) := oq_26 bdX6_behind_0.1
theorem dX6_behind_1 : decode cX6_behind 1 = .ok (.iconst 1, 1) := oq_4 bdX6_behind_0.2.1
theorem dX6_behind_2 : decode cX6_behind 2 = .ok (.iadd, 1) := oq_96 bdX6_behind_0.2.2.1
theorem dX6_behind_3 : decode cX6_behind 3 = .ok (.iload_n 1, 1) := oq_27 bdX6_behind_0.2.2.2.1
theorem dX6_behind_4 : decode cX6_behind 4 = .ok (.if_icmp .ge 9, 3) := oq_162 bdX6_behind_0.2.2.2.2.1
theorem dX6_behind_7 : decode cX6_behind 7 = .ok (.iload_n 0, 1) := oq_26 bdX6_behind_0.2.2.2.2.2.1
theorem dX6_behind_8 : decode cX6_behind 8 = .ok (.iconst 1, 1) := oq_4 bdX6_behind_0.2.2.2.2.2.2.1
theorem dX6_behind_9 : decode cX6_behind 9 = .ok (.iadd, 1) := oq_96 bdX6_behind_0.2.2.2.2.2.2.2.1
theorem dX6_behind_10 : decode cX6_behind 10 = .ok (.goto 4, 3) := oq_167 bdX6_behind_0.2.2.2.2.2.2.2.2.1
theorem dX6_behind_13 : decode cX6_behind 13 = .ok (.iconst 0, 1) := oq_3 bdX6_behind_0.2.2.2.2.2.2.2.2.2.1
theorem dX6_behind_14 : decode cX6_behind 14 = .ok (.ireturn, 1) := oq_172 bdX6_behind_0.2.2.2.2.2.2.2.2.2.2
theorem bdX0_stepOn_0 : (pre_b (List.drop 0 cX0_stepOn.data.toList) [42]) = true ∧ (pre_b (List.drop 1 cX0_stepOn.data.toList) [27]) = true ∧ (pre_b (List.drop 2 cX0_stepOn.data.toList) [182, 0, 105] && Nat.beq (0 * 256 + 105) 105) = true ∧ (pre_b (List.drop 5 cX0_stepOn.data.toList) [61]) = true ∧ (pre_b (List.drop 6 cX0_stepOn.data.toList) [42]) = true ∧ (pre_b (List.drop 7 cX0_stepOn.data.toList) [180, 0, 27] && Nat.beq (0 * 256 + 27) 27) = true ∧ (pre_b (List.drop 10 cX0_stepOn.data.toList) [27]) = true ∧ (pre_b (List.drop 11 cX0_stepOn.data.toList) [46]) = true ∧ (pre_b (List.drop 12 cX0_stepOn.data.toList) [28]) = true ∧ (pre_b (List.drop 13 cX0_stepOn.data.toList) [184, 0, 174] && Nat.beq (0 * 256 + 174) 174) = true ∧ (pre_b (List.drop 16 cX0_stepOn.data.toList) [62]) = true ∧ (pre_b (List.drop 17 cX0_stepOn.data.toList) [3]) = true := by decide +kernel
theorem dX0_stepOn_0 : decode cX0_stepOn 0 = .ok (.aload_n 0, 1) := oq_42 bdX0_stepOn_0.1
theorem dX0_stepOn_1 : decode cX0_stepOn 1 = .ok (.iload_n 1, 1) := oq_27 bdX0_stepOn_0.2.1
theorem dX0_stepOn_2 : decode cX0_stepOn 2 = .ok (.invokevirtual 105, 3) := oq_182 bdX0_stepOn_0.2.2.1
theorem dX0_stepOn_5 : decode cX0_stepOn 5 = .ok (.istore_n 2, 1) := oq_61 bdX0_stepOn_0.2.2.2.1
theorem dX0_stepOn_6 : decode cX0_stepOn 6 = .ok (.aload_n 0, 1) := oq_42 bdX0_stepOn_0.2.2.2.2.1
theorem dX0_stepOn_7 : decode cX0_stepOn 7 = .ok (.getfield 27, 3) := oq_180 bdX0_stepOn_0.2.2.2.2.2.1
theorem dX0_stepOn_10 : decode cX0_stepOn 10 = .ok (.iload_n 1, 1) := oq_27 bdX0_stepOn_0.2.2.2.2.2.2.1
theorem dX0_stepOn_11 : decode cX0_stepOn 11 = .ok (.iaload, 1) := oq_46 bdX0_stepOn_0.2.2.2.2.2.2.2.1
theorem dX0_stepOn_12 : decode cX0_stepOn 12 = .ok (.iload_n 2, 1) := oq_28 bdX0_stepOn_0.2.2.2.2.2.2.2.2.1
theorem dX0_stepOn_13 : decode cX0_stepOn 13 = .ok (.invokestatic 174, 3) := oq_184 bdX0_stepOn_0.2.2.2.2.2.2.2.2.2.1
theorem dX0_stepOn_16 : decode cX0_stepOn 16 = .ok (.istore_n 3, 1) := oq_62 bdX0_stepOn_0.2.2.2.2.2.2.2.2.2.2.1
theorem dX0_stepOn_17 : decode cX0_stepOn 17 = .ok (.iconst 0, 1) := oq_3 bdX0_stepOn_0.2.2.2.2.2.2.2.2.2.2.2
theorem bdX0_stepOn_18 : (pre_b (List.drop 18 cX0_stepOn.data.toList) [54, 4] && Nat.beq (4) 4) = true ∧ (pre_b (List.drop 20 cX0_stepOn.data.toList) [42]) = true ∧ (pre_b (List.drop 21 cX0_stepOn.data.toList) [180, 0, 33] && Nat.beq (0 * 256 + 33) 33) = true ∧ (pre_b (List.drop 24 cX0_stepOn.data.toList) [27]) = true ∧ (pre_b (List.drop 25 cX0_stepOn.data.toList) [46]) = true ∧ (pre_b (List.drop 26 cX0_stepOn.data.toList) [158, 0, 16] && decide (Reader.signed 16 (0 * 256 + 16) = 16)) = true ∧ (pre_b (List.drop 29 cX0_stepOn.data.toList) [42]) = true ∧ (pre_b (List.drop 30 cX0_stepOn.data.toList) [180, 0, 33] && Nat.beq (0 * 256 + 33) 33) = true ∧ (pre_b (List.drop 33 cX0_stepOn.data.toList) [27]) = true ∧ (pre_b (List.drop 34 cX0_stepOn.data.toList) [92]) = true ∧ (pre_b (List.drop 35 cX0_stepOn.data.toList) [46]) = true ∧ (pre_b (List.drop 36 cX0_stepOn.data.toList) [4]) = true := by decide +kernel
theorem dX0_stepOn_18 : decode cX0_stepOn 18 = .ok (.istore 4, 2) := oq_54 bdX0_stepOn_18.1
theorem dX0_stepOn_20 : decode cX0_stepOn 20 = .ok (.aload_n 0, 1) := oq_42 bdX0_stepOn_18.2.1
theorem dX0_stepOn_21 : decode cX0_stepOn 21 = .ok (.getfield 33, 3) := oq_180 bdX0_stepOn_18.2.2.1
theorem dX0_stepOn_24 : decode cX0_stepOn 24 = .ok (.iload_n 1, 1) := oq_27 bdX0_stepOn_18.2.2.2.1
theorem dX0_stepOn_25 : decode cX0_stepOn 25 = .ok (.iaload, 1) := oq_46 bdX0_stepOn_18.2.2.2.2.1
theorem dX0_stepOn_26 : decode cX0_stepOn 26 = .ok (.ifCond .le 16, 3) := oq_158 bdX0_stepOn_18.2.2.2.2.2.1
theorem dX0_stepOn_29 : decode cX0_stepOn 29 = .ok (.aload_n 0, 1) := oq_42 bdX0_stepOn_18.2.2.2.2.2.2.1
theorem dX0_stepOn_30 : decode cX0_stepOn 30 = .ok (.getfield 33, 3) := oq_180 bdX0_stepOn_18.2.2.2.2.2.2.2.1
theorem dX0_stepOn_33 : decode cX0_stepOn 33 = .ok (.iload_n 1, 1) := oq_27 bdX0_stepOn_18.2.2.2.2.2.2.2.2.1
theorem dX0_stepOn_34 : decode cX0_stepOn 34 = .ok (.dup2, 1) := oq_92 bdX0_stepOn_18.2.2.2.2.2.2.2.2.2.1
theorem dX0_stepOn_35 : decode cX0_stepOn 35 = .ok (.iaload, 1) := oq_46 bdX0_stepOn_18.2.2.2.2.2.2.2.2.2.2.1
theorem dX0_stepOn_36 : decode cX0_stepOn 36 = .ok (.iconst 1, 1) := oq_4 bdX0_stepOn_18.2.2.2.2.2.2.2.2.2.2.2
theorem bdX0_stepOn_37 : (pre_b (List.drop 37 cX0_stepOn.data.toList) [100]) = true ∧ (pre_b (List.drop 38 cX0_stepOn.data.toList) [79]) = true ∧ (pre_b (List.drop 39 cX0_stepOn.data.toList) [167, 0, 33] && decide (Reader.signed 16 (0 * 256 + 33) = 33)) = true ∧ (pre_b (List.drop 42 cX0_stepOn.data.toList) [42]) = true ∧ (pre_b (List.drop 43 cX0_stepOn.data.toList) [180, 0, 24] && Nat.beq (0 * 256 + 24) 24) = true ∧ (pre_b (List.drop 46 cX0_stepOn.data.toList) [27]) = true ∧ (pre_b (List.drop 47 cX0_stepOn.data.toList) [42]) = true ∧ (pre_b (List.drop 48 cX0_stepOn.data.toList) [180, 0, 24] && Nat.beq (0 * 256 + 24) 24) = true ∧ (pre_b (List.drop 51 cX0_stepOn.data.toList) [27]) = true ∧ (pre_b (List.drop 52 cX0_stepOn.data.toList) [46]) = true ∧ (pre_b (List.drop 53 cX0_stepOn.data.toList) [28]) = true ∧ (pre_b (List.drop 54 cX0_stepOn.data.toList) [184, 0, 174] && Nat.beq (0 * 256 + 174) 174) = true := by decide +kernel
theorem dX0_stepOn_37 : decode cX0_stepOn 37 = .ok (.isub, 1) := oq_100 bdX0_stepOn_37.1
theorem dX0_stepOn_38 : decode cX0_stepOn 38 = .ok (.iastore, 1) := oq_79 bdX0_stepOn_37.2.1
theorem dX0_stepOn_39 : decode cX0_stepOn 39 = .ok (.goto 33, 3) := oq_167 bdX0_stepOn_37.2.2.1
theorem dX0_stepOn_42 : decode cX0_stepOn 42 = .ok (.aload_n 0, 1) := oq_42 bdX0_stepOn_37.2.2.2.1
theorem dX0_stepOn_43 : decode cX0_stepOn 43 = .ok (.getfield 24, 3) := oq_180 bdX0_stepOn_37.2.2.2.2.1
theorem dX0_stepOn_46 : decode cX0_stepOn 46 = .ok (.iload_n 1, 1) := oq_27 bdX0_stepOn_37.2.2.2.2.2.1
theorem dX0_stepOn_47 : decode cX0_stepOn 47 = .ok (.aload_n 0, 1) := oq_42 bdX0_stepOn_37.2.2.2.2.2.2.1
theorem dX0_stepOn_48 : decode cX0_stepOn 48 = .ok (.getfield 24, 3) := oq_180 bdX0_stepOn_37.2.2.2.2.2.2.2.1
theorem dX0_stepOn_51 : decode cX0_stepOn 51 = .ok (.iload_n 1, 1) := oq_27 bdX0_stepOn_37.2.2.2.2.2.2.2.2.1
theorem dX0_stepOn_52 : decode cX0_stepOn 52 = .ok (.iaload, 1) := oq_46 bdX0_stepOn_37.2.2.2.2.2.2.2.2.2.1
theorem dX0_stepOn_53 : decode cX0_stepOn 53 = .ok (.iload_n 2, 1) := oq_28 bdX0_stepOn_37.2.2.2.2.2.2.2.2.2.2.1
theorem dX0_stepOn_54 : decode cX0_stepOn 54 = .ok (.invokestatic 174, 3) := oq_184 bdX0_stepOn_37.2.2.2.2.2.2.2.2.2.2.2
theorem bdX0_stepOn_57 : (pre_b (List.drop 57 cX0_stepOn.data.toList) [79]) = true ∧ (pre_b (List.drop 58 cX0_stepOn.data.toList) [42]) = true ∧ (pre_b (List.drop 59 cX0_stepOn.data.toList) [180, 0, 24] && Nat.beq (0 * 256 + 24) 24) = true ∧ (pre_b (List.drop 62 cX0_stepOn.data.toList) [27]) = true ∧ (pre_b (List.drop 63 cX0_stepOn.data.toList) [46]) = true ∧ (pre_b (List.drop 64 cX0_stepOn.data.toList) [154, 0, 8] && decide (Reader.signed 16 (0 * 256 + 8) = 8)) = true ∧ (pre_b (List.drop 67 cX0_stepOn.data.toList) [29]) = true ∧ (pre_b (List.drop 68 cX0_stepOn.data.toList) [54, 4] && Nat.beq (4) 4) = true ∧ (pre_b (List.drop 70 cX0_stepOn.data.toList) [3]) = true ∧ (pre_b (List.drop 71 cX0_stepOn.data.toList) [62]) = true ∧ (pre_b (List.drop 72 cX0_stepOn.data.toList) [42]) = true ∧ (pre_b (List.drop 73 cX0_stepOn.data.toList) [180, 0, 27] && Nat.beq (0 * 256 + 27) 27) = true := by decide +kernel
theorem dX0_stepOn_57 : decode cX0_stepOn 57 = .ok (.iastore, 1) := oq_79 bdX0_stepOn_57.1
theorem dX0_stepOn_58 : decode cX0_stepOn 58 = .ok (.aload_n 0, 1) := oq_42 bdX0_stepOn_57.2.1
theorem dX0_stepOn_59 : decode cX0_stepOn 59 = .ok (.getfield 24, 3) := oq_180 bdX0_stepOn_57.2.2.1
theorem dX0_stepOn_62 : decode cX0_stepOn 62 = .ok (.iload_n 1, 1) := oq_27 bdX0_stepOn_57.2.2.2.1
theorem dX0_stepOn_63 : decode cX0_stepOn 63 = .ok (.iaload, 1) := oq_46 bdX0_stepOn_57.2.2.2.2.1
theorem dX0_stepOn_64 : decode cX0_stepOn 64 = .ok (.ifCond .ne 8, 3) := oq_154 bdX0_stepOn_57.2.2.2.2.2.1
theorem dX0_stepOn_67 : decode cX0_stepOn 67 = .ok (.iload_n 3, 1) := oq_29 bdX0_stepOn_57.2.2.2.2.2.2.1
theorem dX0_stepOn_68 : decode cX0_stepOn 68 = .ok (.istore 4, 2) := oq_54 bdX0_stepOn_57.2.2.2.2.2.2.2.1
theorem dX0_stepOn_70 : decode cX0_stepOn 70 = .ok (.iconst 0, 1) := oq_3 bdX0_stepOn_57.2.2.2.2.2.2.2.2.1
theorem dX0_stepOn_71 : decode cX0_stepOn 71 = .ok (.istore_n 3, 1) := oq_62 bdX0_stepOn_57.2.2.2.2.2.2.2.2.2.1
theorem dX0_stepOn_72 : decode cX0_stepOn 72 = .ok (.aload_n 0, 1) := oq_42 bdX0_stepOn_57.2.2.2.2.2.2.2.2.2.2.1
theorem dX0_stepOn_73 : decode cX0_stepOn 73 = .ok (.getfield 27, 3) := oq_180 bdX0_stepOn_57.2.2.2.2.2.2.2.2.2.2.2
theorem bdX0_stepOn_76 : (pre_b (List.drop 76 cX0_stepOn.data.toList) [27]) = true := by decide +kernel
theorem dX0_stepOn_76 : decode cX0_stepOn 76 = .ok (.iload_n 1, 1) := oq_27 bdX0_stepOn_76
